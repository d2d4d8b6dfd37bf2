set_option maxHeartbeats 4000000 in
set_option maxRecDepth 100000 in
theorem c_X4_roll (l : Launch) (D : va_G) (K : Nat → ClassId) (m0 : Nat) (m1 : Nat) (m2 : Nat) (m3 : Nat) (m4 : Nat) (m5 : Nat) (m6 : Nat) (m7 : Nat) (m8 : Nat) (m9 : Nat) (m10 : Nat) (th : Int32) (sy : Nat) (ly : Nat) (py : Nat) (ay : Nat) (iw : Bool) (ty : Nat) (hy : Int64) (n : Nat) (mask : Int32) (vf : Nat → Int32) (sf : Nat → Int32) (z : Nat → Wd) (xr : Nat → Int32) (k : Int32) (hsy : sy ≤ 6) (hn : okN n) : MWi l yX4_roll wsX4_roll ({ frames := 1, cells := 0, slots := 0, locals := 22 } : Room) D (gTy K) [.ref m0, .int k] [(m0, .inr (4, [.int th, .ref m1, .ref m2, .ref m3, .int (nI sy), .ref m4, .int (nI ly), .ref m5, .ref m6, .int (nI py), .ref m7, .ref m8, .ref m9, .int (nI ay), .int (if iw = true then 1 else 0), .ref m10, .int (nI ty), .long hy])), (m1, .inl (K 0, 22, .inl (mst n mask vf sf))), (m3, .inl (K 0, 132, .inl (msv z))), (m9, .inl (K 0, 16, .inl xr))] (fun (u : Wd × (Nat → Wd) × Nat × Int32 × (Nat → Int32)) => [(m0, .inr (4, [.int u.2.2.2.1, .ref m1, .ref m2, .ref m3, .int (nI u.2.2.1), .ref m4, .int (nI ly), .ref m5, .ref m6, .int (nI py), .ref m7, .ref m8, .ref m9, .int (nI ay), .int (if iw = true then 1 else 0), .ref m10, .int (nI ty), .long hy])), (m1, .inl (K 0, 22, .inl (mst u.1.1 u.1.2.1 u.1.2.2.1 u.1.2.2.2))), (m3, .inl (K 0, 132, .inl (msv u.2.1))), (m9, .inl (K 0, 16, .inl u.2.2.2.2))]) (fun r (u : Wd × (Nat → Wd) × Nat × Int32 × (Nat → Int32)) => (thPl n k = 0 ∧ u.1 = (n, mask, rolV n vf k.toNatClampNeg, sf) ∧ u.2.1 = mzS z sy (n, mask, vf, sf) ∧ u.2.2.1 = svC sy ∧ u.2.2.2.1 = 0 ∧ r = nI (rolC n vf k.toNatClampNeg n)) ∨ (¬ thPl n k = 0 ∧ u = ((n, mask, vf, sf), z, sy, nI (thPl n k), xr) ∧ r = 0)) 0 0 := by
  refine g_ofW (Qc := fun A => va_Qi _ (gB D (gTy K) A _) A) (cc := cX4_roll) (maxL := 4) (ret := (some .int)) (own := RX4) (by decide) rfl rfl (Nat.le_of_ble_eq_true rfl) ?_
  intro pp ee s mm below meth cc A hfx hnm hK hP hD hE hS hA ls hl
  obtain ⟨hx, hb, hr, hml, hown, hts, hlk⟩ := hfx
  have hl : lv_has ls 4 [(0, .ref m0), (1, .int k)] := hl
  have hi4 : ∀ w ∈ u_ws RX4 TX4 18, w ∈ wsX4_roll := fun w h => List.mem_cons_of_mem _ (List.mem_append_right _ (h))
  have hnl := hn.le
  refine lv_aload_n hx hb dX4_roll_0 rfl (lv_at hl 0 rfl) ?_
  refine lv_iconst (v := 0) hx hb dX4_roll_1 (by decide) ?_
  refine va_put (D := D) (ci := 4) (v := .int 0) (ty := .int) (C := RX4) (T := TX4) (N := 18) hx hb hts hi4 tyX4 tyX4_ok nmX4 hown hK hP hD hS 0 rfl rfl 0 (by decide) (hts (.fieldLink RX4 40 "PairedChannelsModel" "thrown" "I") (List.mem_of_getElem? (i := 1) (by decide +kernel))) (fun _ h9 => h9) rfl (by decide +kernel) (rfl) (rfl) (Nat.le_of_ble_eq_true rfl) dX4_roll_2 (fun H locs hP hD hS => ?_)
  have hP : va_P D vwCl [(m0, .inr (4, [.int 0, .ref m1, .ref m2, .ref m3, .int (nI sy), .ref m4, .int (nI ly), .ref m5, .ref m6, .int (nI py), .ref m7, .ref m8, .ref m9, .int (nI ay), .int (if iw = true then 1 else 0), .ref m10, .int (nI ty), .long hy])), (m1, .inl (K 0, 22, .inl (mst n mask vf sf))), (m3, .inl (K 0, 132, .inl (msv z))), (m9, .inl (K 0, 16, .inl xr))] _ := hP
  have hD : va_D A [(m0, .inr (4, [.int 0, .ref m1, .ref m2, .ref m3, .int (nI sy), .ref m4, .int (nI ly), .ref m5, .ref m6, .int (nI py), .ref m7, .ref m8, .ref m9, .int (nI ay), .int (if iw = true then 1 else 0), .ref m10, .int (nI ty), .long hy])), (m1, .inl (K 0, 22, .inl (mst n mask vf sf))), (m3, .inl (K 0, 132, .inl (msv z))), (m9, .inl (K 0, 16, .inl xr))] := hD
  refine lv_iload_n hx hb dX4_roll_5 rfl (lv_at hl 1 rfl) ?_
  refine lv_iconst (v := 0) hx hb dX4_roll_6 (by decide) ?_
  refine lv_aload_n hx hb dX4_roll_7 rfl (lv_at hl 0 rfl) ?_
  refine va_get (D := D) (ci := 4) (v := .ref m1) (C := RX4) (T := TX4) (N := 18) hx hb hts hi4 hown hK hP 0 rfl rfl 1 (by decide) (hts (.fieldLink RX4 7 "PairedChannelsModel" "s" "[I") (List.mem_of_getElem? (i := 2) (by decide +kernel))) (fun _ h9 => h9) rfl dX4_roll_8 ?_
  refine lv_iconst (v := 0) hx hb dX4_roll_11 (by decide) ?_
  refine wa_iald hx hb hK hP 1 0 rfl rfl (0) rfl (by omega) (by decide) dX4_roll_12 ?_
  refine lv_eqi (nI n) (rfl) ?_
  refine lv_iconst (v := 1) hx hb dX4_roll_13 (by decide) ?_
  refine lv_isub hx hb dX4_roll_14 ?_
  refine lv_eqi (nI (n - 1)) (pk_sub (a := n) (b := 1) (by omega)) ?_
  refine gR_i (va_runS (As := [.int k, .int 0, .int (nI (n - 1))]) (rest := []) ⟨hx, hb, hml, hown, hts⟩ (c_X4_in l D K k 0 (nI (n - 1)) ) (va_cwS 3 hts gX4_roll_X4_in rfl rfl rfl (by decide +kernel) ⟨Nat.le_of_ble_eq_true rfl, Nat.le_of_ble_eq_true rfl⟩) (gR_pre hE hS hK hP [] rfl) rfl rfl hl.1 rfl (lv_room (Nat.le_of_ble_eq_true rfl)) dX4_roll_15 ⟨Nat.le_of_ble_eq_true rfl, Nat.le_of_ble_eq_true rfl⟩) hS hP (fun rv2 H locs h1 hP hS => ?_)
  have h1 : rv2 = (if 0 ≤ k ∧ k ≤ (nI (n - 1)) then 1 else 0) := h1
  subst h1
  refine lv_if_ne (tgt := 27) hx hb dX4_roll_18 (by decide) (fun c18 => ?_) (fun c18 => ?_)
  · skip
    have c18 : 0 ≤ k ∧ k ≤ (nI (n - 1)) := b_ne0 c18
    have c8 : 0 ≤ k ∧ k < nI n := le_pl (by omega) hnl.2 c18
    obtain ⟨j, hj, ej⟩ := in_nat (by omega) c8
    have ekc : k.toNatClampNeg = j := by rw [ej, nI_clamp (by omega)]
    have hth : thPl n k = 0 := by unfold thPl; rw [if_pos c8]
    subst ej
    rw [ekc]
    refine lv_aload_n hx hb dX4_roll_27 rfl (lv_at hl 0 rfl) ?_
    refine gW_v (wr := [(m9, .inl (K 0, 16, .inl xr))]) (W2 := (fun (u : Unit) => [(m0, .inr (4, [.int 0, .ref m1, .ref m2, .ref m3, .int (nI (svC sy)), .ref m4, .int (nI ly), .ref m5, .ref m6, .int (nI py), .ref m7, .ref m8, .ref m9, .int (nI ay), .int (if iw = true then 1 else 0), .ref m10, .int (nI ty), .long hy])), (m1, .inl (K 0, 22, .inl (mst n mask vf sf))), (m3, .inl (K 0, 132, .inl (msv (mzS z sy (n, mask, vf, sf))))), (m9, .inl (K 0, 16, .inl xr))])) (va_runV (As := []) (rest := []) ⟨hx, hb, hml, hown, hts⟩ ((c_X4_saves l D K m0 m1 m2 m3 m4 m5 m6 m7 m8 m9 m10 0 sy ly py ay iw ty hy n mask vf sf z (by first | assumption | omega)) _) (cwV 0 hts gX4_roll_X4_saves rfl rfl rfl (by decide +kernel) ⟨Nat.le_of_ble_eq_true rfl, Nat.le_of_ble_eq_true rfl⟩) (gW_preV hE hS hK hP hD hA [0, 1, 2] rfl (by decide) 0 rfl rfl rfl) rfl rfl hl.1 rfl (lv_room (Nat.le_of_ble_eq_true rfl)) dX4_roll_28 ⟨Nat.le_of_ble_eq_true rfl, Nat.le_of_ble_eq_true rfl⟩) hS hP hD hA [0, 1, 2] [3] [1, 2, 3, 0] rfl rfl (by decide) (by decide) (by decide) (fun _ => rfl) (fun u4 H locs h5 hP hD hS => ?_)
    have hP : va_P D vwCl [(m0, .inr (4, [.int 0, .ref m1, .ref m2, .ref m3, .int (nI (svC sy)), .ref m4, .int (nI ly), .ref m5, .ref m6, .int (nI py), .ref m7, .ref m8, .ref m9, .int (nI ay), .int (if iw = true then 1 else 0), .ref m10, .int (nI ty), .long hy])), (m1, .inl (K 0, 22, .inl (mst n mask vf sf))), (m3, .inl (K 0, 132, .inl (msv (mzS z sy (n, mask, vf, sf))))), (m9, .inl (K 0, 16, .inl xr))] _ := hP
    have hD : va_D A [(m0, .inr (4, [.int 0, .ref m1, .ref m2, .ref m3, .int (nI (svC sy)), .ref m4, .int (nI ly), .ref m5, .ref m6, .int (nI py), .ref m7, .ref m8, .ref m9, .int (nI ay), .int (if iw = true then 1 else 0), .ref m10, .int (nI ty), .long hy])), (m1, .inl (K 0, 22, .inl (mst n mask vf sf))), (m3, .inl (K 0, 132, .inl (msv (mzS z sy (n, mask, vf, sf))))), (m9, .inl (K 0, 16, .inl xr))] := hD
    refine lv_iconst (v := 0) hx hb dX4_roll_31 (by decide) ?_
    refine lv_istore_n (lv' := [(2, .int 0), (0, .ref m0), (1, .int (nI j))]) hx hb dX4_roll_32 rfl hl (by decide) rfl (fun ls hl => ?_)
    refine g_loopW (st := []) (N := n) (fun i H locs ls => ∃ r2 : Nat → Int32, (∀ q, q < i → r2 ((q + j) % n) = vf q) ∧ va_P D vwCl [(m0, .inr (4, [.int 0, .ref m1, .ref m2, .ref m3, .int (nI (svC sy)), .ref m4, .int (nI ly), .ref m5, .ref m6, .int (nI py), .ref m7, .ref m8, .ref m9, .int (nI ay), .int (if iw = true then 1 else 0), .ref m10, .int (nI ty), .long hy])), (m1, .inl (K 0, 22, .inl (mst n mask vf sf))), (m3, .inl (K 0, 132, .inl (msv (mzS z sy (n, mask, vf, sf))))), (m9, .inl (K 0, 16, .inl r2))] H ∧ va_D A [(m0, .inr (4, [.int 0, .ref m1, .ref m2, .ref m3, .int (nI (svC sy)), .ref m4, .int (nI ly), .ref m5, .ref m6, .int (nI py), .ref m7, .ref m8, .ref m9, .int (nI ay), .int (if iw = true then 1 else 0), .ref m10, .int (nI ty), .long hy])), (m1, .inl (K 0, 22, .inl (mst n mask vf sf))), (m3, .inl (K 0, 132, .inl (msv (mzS z sy (n, mask, vf, sf))))), (m9, .inl (K 0, 16, .inl r2))] ∧ va_S A s.heap H locs ∧ lv_has ls 4 [(2, .int (nI i)), (0, .ref m0), (1, .int (nI j))]) 0 (Nat.zero_le _) ?_ ?_ ?_
    · intro H locs ls hI
      obtain ⟨r2, hh, hP, hD, hS, hl⟩ := hI
      have hrr : ∀ x, x < n → r2 x = rolV n vf j x := fun x hx => by have hb := rol_back hx hj; have e := hh _ hb.1; rw [hb.2] at e; rw [e]; unfold rolV; rw [if_pos hx]
      refine lv_iload_n hx hb dX4_roll_33 rfl (lv_at hl 0 rfl) ?_
      refine lv_aload_n hx hb dX4_roll_34 rfl (lv_at hl 1 rfl) ?_
      refine va_get (D := D) (ci := 4) (v := .ref m1) (C := RX4) (T := TX4) (N := 18) hx hb hts hi4 hown hK hP 0 rfl rfl 1 (by decide) (hts (.fieldLink RX4 7 "PairedChannelsModel" "s" "[I") (List.mem_of_getElem? (i := 2) (by decide +kernel))) (fun _ h9 => h9) rfl dX4_roll_35 ?_
      refine lv_iconst (v := 0) hx hb dX4_roll_38 (by decide) ?_
      refine wa_iald hx hb hK hP 1 0 rfl rfl (0) rfl (by omega) (by decide) dX4_roll_39 ?_
      refine lv_eqi (nI n) (rfl) ?_
      refine lv_icmp_ge (tgt := 73) hx hb dX4_roll_40 (by decide) (fun c8 => ?_) (fun c8 => ?_)
      · skip
        have c8 : n ≤ n := (nI_leI (a := n) (b := n) (by omega) (by omega)).mp c8
        refine lv_iconst (v := 0) hx hb dX4_roll_73 (by decide) ?_
        refine lv_istore_n (lv' := [(2, .int 0), (0, .ref m0), (1, .int (nI j))]) hx hb dX4_roll_74 rfl hl (by decide) rfl (fun ls hl => ?_)
        refine lv_iconst (v := 0) hx hb dX4_roll_75 (by decide) ?_
        refine lv_istore_n (lv' := [(3, .int 0), (2, .int 0), (0, .ref m0), (1, .int (nI j))]) hx hb dX4_roll_76 rfl hl (by decide) rfl (fun ls hl => ?_)
        refine g_loopW (st := []) (N := n) (fun i H locs ls => ∃ v2 : Nat → Int32, (∀ q, q < 16 → v2 q = (if q < i then rolV n vf j q else vf q)) ∧ va_P D vwCl [(m0, .inr (4, [.int 0, .ref m1, .ref m2, .ref m3, .int (nI (svC sy)), .ref m4, .int (nI ly), .ref m5, .ref m6, .int (nI py), .ref m7, .ref m8, .ref m9, .int (nI ay), .int (if iw = true then 1 else 0), .ref m10, .int (nI ty), .long hy])), (m1, .inl (K 0, 22, .inl (mst n mask v2 sf))), (m3, .inl (K 0, 132, .inl (msv (mzS z sy (n, mask, vf, sf))))), (m9, .inl (K 0, 16, .inl r2))] H ∧ va_D A [(m0, .inr (4, [.int 0, .ref m1, .ref m2, .ref m3, .int (nI (svC sy)), .ref m4, .int (nI ly), .ref m5, .ref m6, .int (nI py), .ref m7, .ref m8, .ref m9, .int (nI ay), .int (if iw = true then 1 else 0), .ref m10, .int (nI ty), .long hy])), (m1, .inl (K 0, 22, .inl (mst n mask v2 sf))), (m3, .inl (K 0, 132, .inl (msv (mzS z sy (n, mask, vf, sf))))), (m9, .inl (K 0, 16, .inl r2))] ∧ va_S A s.heap H locs ∧ lv_has ls 4 [(3, .int (nI i)), (2, .int (nI (rolC n vf j i))), (0, .ref m0), (1, .int (nI j))]) 0 (Nat.zero_le _) ?_ ?_ ?_
        · intro H locs ls hI
          obtain ⟨v2, hv2, hP, hD, hS, hl⟩ := hI
          refine lv_iload_n hx hb dX4_roll_77 rfl (lv_at hl 0 rfl) ?_
          refine lv_aload_n hx hb dX4_roll_78 rfl (lv_at hl 2 rfl) ?_
          refine va_get (D := D) (ci := 4) (v := .ref m1) (C := RX4) (T := TX4) (N := 18) hx hb hts hi4 hown hK hP 0 rfl rfl 1 (by decide) (hts (.fieldLink RX4 7 "PairedChannelsModel" "s" "[I") (List.mem_of_getElem? (i := 2) (by decide +kernel))) (fun _ h9 => h9) rfl dX4_roll_79 ?_
          refine lv_iconst (v := 0) hx hb dX4_roll_82 (by decide) ?_
          refine wa_iald hx hb hK hP 1 0 rfl rfl (0) rfl (by omega) (by decide) dX4_roll_83 ?_
          refine lv_eqi (nI n) (rfl) ?_
          refine lv_icmp_ge (tgt := 134) hx hb dX4_roll_84 (by decide) (fun c10 => ?_) (fun c10 => ?_)
          · skip
            have c10 : n ≤ n := (nI_leI (a := n) (b := n) (by omega) (by omega)).mp c10
            have hP : va_P D vwCl [(m0, .inr (4, [.int 0, .ref m1, .ref m2, .ref m3, .int (nI (svC sy)), .ref m4, .int (nI ly), .ref m5, .ref m6, .int (nI py), .ref m7, .ref m8, .ref m9, .int (nI ay), .int (if iw = true then 1 else 0), .ref m10, .int (nI ty), .long hy])), (m1, .inl (K 0, 22, .inl (mst n mask (rolV n vf j) sf))), (m3, .inl (K 0, 132, .inl (msv (mzS z sy (n, mask, vf, sf))))), (m9, .inl (K 0, 16, .inl r2))] _ := gP_ext hP 1 rfl (mst_ext (fun q hq => (hv2 q hq).trans (by unfold rolV; by_cases z9 : q < n; rw [if_pos z9, if_pos z9]; rw [if_neg z9, if_neg z9])))
            have hD : va_D A [(m0, .inr (4, [.int 0, .ref m1, .ref m2, .ref m3, .int (nI (svC sy)), .ref m4, .int (nI ly), .ref m5, .ref m6, .int (nI py), .ref m7, .ref m8, .ref m9, .int (nI ay), .int (if iw = true then 1 else 0), .ref m10, .int (nI ty), .long hy])), (m1, .inl (K 0, 22, .inl (mst n mask (rolV n vf j) sf))), (m3, .inl (K 0, 132, .inl (msv (mzS z sy (n, mask, vf, sf))))), (m9, .inl (K 0, 16, .inl r2))] := gD_ext hD 1 rfl
            refine lv_iload_n hx hb dX4_roll_134 rfl (lv_at hl 1 rfl) ?_
            exact gW_iret (v := nI (rolC n vf j n)) ((n, mask, rolV n vf j, sf), mzS z sy (n, mask, vf, sf), svC sy, 0, r2) hx hb hr hlk (rfl) hK hP hD hS (Or.inl ⟨hth, rfl, rfl, rfl, rfl, rfl⟩) dX4_roll_135
          · skip
            have c10 : ¬ n ≤ n := fun h9 => c10 ((nI_leI (a := n) (b := n) (by omega) (by omega)).mpr h9)
            omega
        · intro i hi ih9 H locs ls hI
          obtain ⟨v2, hv2, hP, hD, hS, hl⟩ := hI
          have hrc := rolC_le n vf j i
          refine lv_iload_n hx hb dX4_roll_77 rfl (lv_at hl 0 rfl) ?_
          refine lv_aload_n hx hb dX4_roll_78 rfl (lv_at hl 2 rfl) ?_
          refine va_get (D := D) (ci := 4) (v := .ref m1) (C := RX4) (T := TX4) (N := 18) hx hb hts hi4 hown hK hP 0 rfl rfl 1 (by decide) (hts (.fieldLink RX4 7 "PairedChannelsModel" "s" "[I") (List.mem_of_getElem? (i := 2) (by decide +kernel))) (fun _ h9 => h9) rfl dX4_roll_79 ?_
          refine lv_iconst (v := 0) hx hb dX4_roll_82 (by decide) ?_
          refine wa_iald hx hb hK hP 1 0 rfl rfl (0) rfl (by omega) (by decide) dX4_roll_83 ?_
          refine lv_eqi (nI n) (rfl) ?_
          refine lv_icmp_ge (tgt := 134) hx hb dX4_roll_84 (by decide) (fun c11 => ?_) (fun c11 => ?_)
          · skip
            have c11 : n ≤ i := (nI_leI (a := n) (b := i) (by omega) (by omega)).mp c11
            omega
          · skip
            have c11 : ¬ n ≤ i := fun h9 => c11 ((nI_leI (a := n) (b := i) (by omega) (by omega)).mpr h9)
            refine lv_iload_n hx hb dX4_roll_87 rfl (lv_at hl 1 rfl) ?_
            refine lv_aload_n hx hb dX4_roll_88 rfl (lv_at hl 2 rfl) ?_
            refine va_get (D := D) (ci := 4) (v := .ref m1) (C := RX4) (T := TX4) (N := 18) hx hb hts hi4 hown hK hP 0 rfl rfl 1 (by decide) (hts (.fieldLink RX4 7 "PairedChannelsModel" "s" "[I") (List.mem_of_getElem? (i := 2) (by decide +kernel))) (fun _ h9 => h9) rfl dX4_roll_89 ?_
            refine lv_bipush (v := 6) hx hb dX4_roll_92 (by decide) ?_
            refine lv_iload_n hx hb dX4_roll_94 rfl (lv_at hl 0 rfl) ?_
            refine lv_iadd hx hb dX4_roll_95 ?_
            refine lv_eqi (nI (6 + i)) (nI_add 6 i) ?_
            refine wa_iald hx hb hK hP 1 0 rfl rfl (6 + i) rfl (by omega) (by decide) dX4_roll_96 ?_
            refine lv_eqi (v2 i) (mst_p _) ?_
            refine lv_eqi (vf i) ((hv2 i (by omega)).trans (if_neg (Nat.lt_irrefl i))) ?_
            refine lv_aload_n hx hb dX4_roll_97 rfl (lv_at hl 2 rfl) ?_
            refine va_get (D := D) (ci := 4) (v := .ref m9) (C := RX4) (T := TX4) (N := 18) hx hb hts hi4 hown hK hP 0 rfl rfl 12 (by decide) (hts (.fieldLink RX4 34 "PairedChannelsModel" "row" "[I") (List.mem_of_getElem? (i := 3) (by decide +kernel))) (fun _ h9 => h9) rfl dX4_roll_98 ?_
            refine lv_iload_n hx hb dX4_roll_101 rfl (lv_at hl 0 rfl) ?_
            refine wa_iald hx hb hK hP 3 0 rfl rfl (i) rfl (by omega) (by decide) dX4_roll_102 ?_
            refine lv_eqi (rolV n vf j i) (hrr i hi) ?_
            refine g_cut (F0 mm 111 ls [.int (if ¬ (vf i = rolV n vf j i) then 1 else 0), .int (nI (rolC n vf j i))]) (fun hJ => ?_) ?_
            · refine lv_icmp_ne (tgt := 110) hx hb dX4_roll_103 (by decide) (fun c12 => ?_) (fun c12 => ?_)
              · skip
                refine lv_iconst (v := 1) hx hb dX4_roll_110 (by decide) ?_
                refine lv_eqi ((if ¬ (vf i = rolV n vf j i) then 1 else 0)) (if_pos c12).symm ?_
                exact hJ
              · skip
                refine lv_iconst (v := 0) hx hb dX4_roll_106 (by decide) ?_
                refine lv_goto (tgt := 111) hx hb dX4_roll_107 (by decide) ?_
                refine lv_eqi ((if ¬ (vf i = rolV n vf j i) then 1 else 0)) (if_neg (fun h => h c12)).symm ?_
                exact hJ
            · skip
              refine lv_iadd hx hb dX4_roll_111 ?_
              refine lv_istore_n (lv' := [(2, .int (nI (rolC n vf j i) + (if ¬ (vf i = rolV n vf j i) then 1 else 0))), (3, .int (nI i)), (0, .ref m0), (1, .int (nI j))]) hx hb dX4_roll_112 rfl hl (by decide) rfl (fun ls hl => ?_)
              refine lv_aload_n hx hb dX4_roll_113 rfl (lv_at hl 2 rfl) ?_
              refine va_get (D := D) (ci := 4) (v := .ref m1) (C := RX4) (T := TX4) (N := 18) hx hb hts hi4 hown hK hP 0 rfl rfl 1 (by decide) (hts (.fieldLink RX4 7 "PairedChannelsModel" "s" "[I") (List.mem_of_getElem? (i := 2) (by decide +kernel))) (fun _ h9 => h9) rfl dX4_roll_114 ?_
              refine lv_bipush (v := 6) hx hb dX4_roll_117 (by decide) ?_
              refine lv_iload_n hx hb dX4_roll_119 rfl (lv_at hl 1 rfl) ?_
              refine lv_iadd hx hb dX4_roll_120 ?_
              refine lv_eqi (nI (6 + i)) (nI_add 6 i) ?_
              refine lv_aload_n hx hb dX4_roll_121 rfl (lv_at hl 2 rfl) ?_
              refine va_get (D := D) (ci := 4) (v := .ref m9) (C := RX4) (T := TX4) (N := 18) hx hb hts hi4 hown hK hP 0 rfl rfl 12 (by decide) (hts (.fieldLink RX4 34 "PairedChannelsModel" "row" "[I") (List.mem_of_getElem? (i := 3) (by decide +kernel))) (fun _ h9 => h9) rfl dX4_roll_122 ?_
              refine lv_iload_n hx hb dX4_roll_125 rfl (lv_at hl 1 rfl) ?_
              refine wa_iald hx hb hK hP 3 0 rfl rfl (i) rfl (by omega) (by decide) dX4_roll_126 ?_
              refine lv_eqi (rolV n vf j i) (hrr i hi) ?_
              refine wa_iast (x := rolV n vf j i) hx hb hK hP hD hS 1 0 rfl rfl (6 + i) rfl (by omega) (by decide) dX4_roll_127 (fun H locs hP hD hS => ?_)
              have hP : va_P D vwCl [(m0, .inr (4, [.int 0, .ref m1, .ref m2, .ref m3, .int (nI (svC sy)), .ref m4, .int (nI ly), .ref m5, .ref m6, .int (nI py), .ref m7, .ref m8, .ref m9, .int (nI ay), .int (if iw = true then 1 else 0), .ref m10, .int (nI ty), .long hy])), (m1, .inl (K 0, 22, .inl (upd (mst n mask v2 sf) (6 + i) (rolV n vf j i)))), (m3, .inl (K 0, 132, .inl (msv (mzS z sy (n, mask, vf, sf))))), (m9, .inl (K 0, 16, .inl r2))] _ := hP
              have hD : va_D A [(m0, .inr (4, [.int 0, .ref m1, .ref m2, .ref m3, .int (nI (svC sy)), .ref m4, .int (nI ly), .ref m5, .ref m6, .int (nI py), .ref m7, .ref m8, .ref m9, .int (nI ay), .int (if iw = true then 1 else 0), .ref m10, .int (nI ty), .long hy])), (m1, .inl (K 0, 22, .inl (upd (mst n mask v2 sf) (6 + i) (rolV n vf j i)))), (m3, .inl (K 0, 132, .inl (msv (mzS z sy (n, mask, vf, sf))))), (m9, .inl (K 0, 16, .inl r2))] := hD
              have e14 : (upd (mst n mask v2 sf) (6 + i) (rolV n vf j i)) = (mst n mask (upd v2 i (rolV n vf j i)) sf) := mst_up _ _
              rw [e14] at hP hD
              have hP : va_P D vwCl [(m0, .inr (4, [.int 0, .ref m1, .ref m2, .ref m3, .int (nI (svC sy)), .ref m4, .int (nI ly), .ref m5, .ref m6, .int (nI py), .ref m7, .ref m8, .ref m9, .int (nI ay), .int (if iw = true then 1 else 0), .ref m10, .int (nI ty), .long hy])), (m1, .inl (K 0, 22, .inl (mst n mask (upd v2 i (rolV n vf j i)) sf))), (m3, .inl (K 0, 132, .inl (msv (mzS z sy (n, mask, vf, sf))))), (m9, .inl (K 0, 16, .inl r2))] _ := hP
              have hD : va_D A [(m0, .inr (4, [.int 0, .ref m1, .ref m2, .ref m3, .int (nI (svC sy)), .ref m4, .int (nI ly), .ref m5, .ref m6, .int (nI py), .ref m7, .ref m8, .ref m9, .int (nI ay), .int (if iw = true then 1 else 0), .ref m10, .int (nI ty), .long hy])), (m1, .inl (K 0, 22, .inl (mst n mask (upd v2 i (rolV n vf j i)) sf))), (m3, .inl (K 0, 132, .inl (msv (mzS z sy (n, mask, vf, sf))))), (m9, .inl (K 0, 16, .inl r2))] := hD
              refine lv_iinc (v := nI (i + 1)) (lv' := [(3, .int (nI (i + 1))), (2, .int (nI (rolC n vf j i) + (if ¬ (vf i = rolV n vf j i) then 1 else 0))), (0, .ref m0), (1, .int (nI j))]) hx hb dX4_roll_128 hl (k := 1) rfl (nI_add i 1) (by decide) rfl (fun ls hl => ?_)
              refine lv_goto (tgt := 77) hx hb dX4_roll_131 (by decide) ?_
              have e9 : (nI (rolC n vf j i) + (if ¬ (vf i = rolV n vf j i) then 1 else 0)) = (nI (rolC n vf j (i + 1))) := nI_ite4 _ _ _ (fun h => h.symm) (fun h => h.symm)
              rw [e9] at hl
              exact ih9 H locs ls ⟨(upd v2 i (rolV n vf j i)), (fun q hq => by by_cases e : q = i; subst e; rw [pk_us]; exact g_ip (Nat.lt_succ_self _) rfl; rw [pk_un e, hv2 q hq]; exact g_iff (by omega) _ _), hP, hD, hS, lv_sub hl [0, 1, 2, 3] rfl⟩
        · exact ⟨vf, (fun q hq => by rw [if_neg (Nat.not_lt_zero q)]), hP, hD, hS, lv_sub hl [0, 1, 2, 3] rfl⟩
      · skip
        have c8 : ¬ n ≤ n := fun h9 => c8 ((nI_leI (a := n) (b := n) (by omega) (by omega)).mpr h9)
        omega
    · intro i hi ih7 H locs ls hI
      obtain ⟨r2, hh, hP, hD, hS, hl⟩ := hI
      refine lv_iload_n hx hb dX4_roll_33 rfl (lv_at hl 0 rfl) ?_
      refine lv_aload_n hx hb dX4_roll_34 rfl (lv_at hl 1 rfl) ?_
      refine va_get (D := D) (ci := 4) (v := .ref m1) (C := RX4) (T := TX4) (N := 18) hx hb hts hi4 hown hK hP 0 rfl rfl 1 (by decide) (hts (.fieldLink RX4 7 "PairedChannelsModel" "s" "[I") (List.mem_of_getElem? (i := 2) (by decide +kernel))) (fun _ h9 => h9) rfl dX4_roll_35 ?_
      refine lv_iconst (v := 0) hx hb dX4_roll_38 (by decide) ?_
      refine wa_iald hx hb hK hP 1 0 rfl rfl (0) rfl (by omega) (by decide) dX4_roll_39 ?_
      refine lv_eqi (nI n) (rfl) ?_
      refine lv_icmp_ge (tgt := 73) hx hb dX4_roll_40 (by decide) (fun c15 => ?_) (fun c15 => ?_)
      · skip
        have c15 : n ≤ i := (nI_leI (a := n) (b := i) (by omega) (by omega)).mp c15
        omega
      · skip
        have c15 : ¬ n ≤ i := fun h9 => c15 ((nI_leI (a := n) (b := i) (by omega) (by omega)).mpr h9)
        refine lv_aload_n hx hb dX4_roll_43 rfl (lv_at hl 1 rfl) ?_
        refine va_get (D := D) (ci := 4) (v := .ref m9) (C := RX4) (T := TX4) (N := 18) hx hb hts hi4 hown hK hP 0 rfl rfl 12 (by decide) (hts (.fieldLink RX4 34 "PairedChannelsModel" "row" "[I") (List.mem_of_getElem? (i := 3) (by decide +kernel))) (fun _ h9 => h9) rfl dX4_roll_44 ?_
        refine lv_iload_n hx hb dX4_roll_47 rfl (lv_at hl 0 rfl) ?_
        refine lv_iload_n hx hb dX4_roll_48 rfl (lv_at hl 2 rfl) ?_
        refine lv_iadd hx hb dX4_roll_49 ?_
        refine lv_eqi (nI (i + j)) (nI_add i j) ?_
        refine lv_aload_n hx hb dX4_roll_50 rfl (lv_at hl 1 rfl) ?_
        refine va_get (D := D) (ci := 4) (v := .ref m1) (C := RX4) (T := TX4) (N := 18) hx hb hts hi4 hown hK hP 0 rfl rfl 1 (by decide) (hts (.fieldLink RX4 7 "PairedChannelsModel" "s" "[I") (List.mem_of_getElem? (i := 2) (by decide +kernel))) (fun _ h9 => h9) rfl dX4_roll_51 ?_
        refine lv_iconst (v := 0) hx hb dX4_roll_54 (by decide) ?_
        refine wa_iald hx hb hK hP 1 0 rfl rfl (0) rfl (by omega) (by decide) dX4_roll_55 ?_
        refine lv_eqi (nI n) (rfl) ?_
        refine lv_irem hx hb dX4_roll_56 (nI_ne0 (by omega) (by omega)) ?_
        refine lv_eqi (nI ((i + j) % n)) (pk_rem (a := i + j) (d := n) (by omega) (by omega) (by omega)) ?_
        refine lv_aload_n hx hb dX4_roll_57 rfl (lv_at hl 1 rfl) ?_
        refine va_get (D := D) (ci := 4) (v := .ref m1) (C := RX4) (T := TX4) (N := 18) hx hb hts hi4 hown hK hP 0 rfl rfl 1 (by decide) (hts (.fieldLink RX4 7 "PairedChannelsModel" "s" "[I") (List.mem_of_getElem? (i := 2) (by decide +kernel))) (fun _ h9 => h9) rfl dX4_roll_58 ?_
        refine lv_bipush (v := 6) hx hb dX4_roll_61 (by decide) ?_
        refine lv_iload_n hx hb dX4_roll_63 rfl (lv_at hl 0 rfl) ?_
        refine lv_iadd hx hb dX4_roll_64 ?_
        refine lv_eqi (nI (6 + i)) (nI_add 6 i) ?_
        refine wa_iald hx hb hK hP 1 0 rfl rfl (6 + i) rfl (by omega) (by decide) dX4_roll_65 ?_
        refine lv_eqi (vf i) (mst_p _) ?_
        refine wa_iast (x := vf i) hx hb hK hP hD hS 3 0 rfl rfl ((i + j) % n) rfl (Nat.lt_of_lt_of_le (Nat.mod_lt _ (by omega)) hnl.2) (by decide) dX4_roll_66 (fun H locs hP hD hS => ?_)
        have hP : va_P D vwCl [(m0, .inr (4, [.int 0, .ref m1, .ref m2, .ref m3, .int (nI (svC sy)), .ref m4, .int (nI ly), .ref m5, .ref m6, .int (nI py), .ref m7, .ref m8, .ref m9, .int (nI ay), .int (if iw = true then 1 else 0), .ref m10, .int (nI ty), .long hy])), (m1, .inl (K 0, 22, .inl (mst n mask vf sf))), (m3, .inl (K 0, 132, .inl (msv (mzS z sy (n, mask, vf, sf))))), (m9, .inl (K 0, 16, .inl (upd r2 ((i + j) % n) (vf i))))] _ := hP
        have hD : va_D A [(m0, .inr (4, [.int 0, .ref m1, .ref m2, .ref m3, .int (nI (svC sy)), .ref m4, .int (nI ly), .ref m5, .ref m6, .int (nI py), .ref m7, .ref m8, .ref m9, .int (nI ay), .int (if iw = true then 1 else 0), .ref m10, .int (nI ty), .long hy])), (m1, .inl (K 0, 22, .inl (mst n mask vf sf))), (m3, .inl (K 0, 132, .inl (msv (mzS z sy (n, mask, vf, sf))))), (m9, .inl (K 0, 16, .inl (upd r2 ((i + j) % n) (vf i))))] := hD
        refine lv_iinc (v := nI (i + 1)) (lv' := [(2, .int (nI (i + 1))), (0, .ref m0), (1, .int (nI j))]) hx hb dX4_roll_67 hl (k := 0) rfl (nI_add i 1) (by decide) rfl (fun ls hl => ?_)
        refine lv_goto (tgt := 33) hx hb dX4_roll_70 (by decide) ?_
        exact ih7 H locs ls ⟨(upd r2 ((i + j) % n) (vf i)), (fun q hq => by by_cases e : q = i; subst e; exact pk_us; rw [pk_un (fun h => e (rol_inj (by omega) hi hj h))]; exact hh q (by omega)), hP, hD, hS, lv_sub hl [0, 1, 2] rfl⟩
    · exact ⟨xr, (fun q hq => absurd hq (Nat.not_lt_zero q)), hP, hD, hS, lv_sub hl [0, 1, 2] rfl⟩
  · skip
    have c18 : ¬ (0 ≤ k ∧ k ≤ (nI (n - 1))) := b_eq0 c18
    refine lv_aload_n hx hb dX4_roll_21 rfl (lv_at hl 0 rfl) ?_
    refine lv_iconst (v := 1) hx hb dX4_roll_22 (by decide) ?_
    refine gW_i (wr := [(m1, .inl (K 0, 22, .inl (mst n mask vf sf))), (m3, .inl (K 0, 132, .inl (msv z))), (m9, .inl (K 0, 16, .inl xr))]) (W2 := (fun (u : Unit) => [(m0, .inr (4, [.int 1, .ref m1, .ref m2, .ref m3, .int (nI sy), .ref m4, .int (nI ly), .ref m5, .ref m6, .int (nI py), .ref m7, .ref m8, .ref m9, .int (nI ay), .int (if iw = true then 1 else 0), .ref m10, .int (nI ty), .long hy])), (m1, .inl (K 0, 22, .inl (mst n mask vf sf))), (m3, .inl (K 0, 132, .inl (msv z))), (m9, .inl (K 0, 16, .inl xr))])) (va_runV (As := [.int 1]) (rest := []) ⟨hx, hb, hml, hown, hts⟩ ((c_X4_fails l D K m0 m1 m2 m3 m4 m5 m6 m7 m8 m9 m10 0 sy ly py ay iw ty hy 1 ) _) (cwV 1 hts gX4_roll_X4_fails rfl rfl rfl (by decide +kernel) ⟨Nat.le_of_ble_eq_true rfl, Nat.le_of_ble_eq_true rfl⟩) (gW_preV hE hS hK hP hD hA [0] rfl (by decide) 0 rfl rfl rfl) rfl rfl hl.1 rfl (lv_room (Nat.le_of_ble_eq_true rfl)) dX4_roll_23 ⟨Nat.le_of_ble_eq_true rfl, Nat.le_of_ble_eq_true rfl⟩) hS hP hD hA [0] [1, 2, 3] [3, 0, 1, 2] rfl rfl (by decide) (by decide) (by decide) (fun _ => rfl) (fun rv18 u16 H locs h17 hP hD hS => ?_)
    have hP : va_P D vwCl [(m0, .inr (4, [.int 1, .ref m1, .ref m2, .ref m3, .int (nI sy), .ref m4, .int (nI ly), .ref m5, .ref m6, .int (nI py), .ref m7, .ref m8, .ref m9, .int (nI ay), .int (if iw = true then 1 else 0), .ref m10, .int (nI ty), .long hy])), (m1, .inl (K 0, 22, .inl (mst n mask vf sf))), (m3, .inl (K 0, 132, .inl (msv z))), (m9, .inl (K 0, 16, .inl xr))] _ := hP
    have hD : va_D A [(m0, .inr (4, [.int 1, .ref m1, .ref m2, .ref m3, .int (nI sy), .ref m4, .int (nI ly), .ref m5, .ref m6, .int (nI py), .ref m7, .ref m8, .ref m9, .int (nI ay), .int (if iw = true then 1 else 0), .ref m10, .int (nI ty), .long hy])), (m1, .inl (K 0, 22, .inl (mst n mask vf sf))), (m3, .inl (K 0, 132, .inl (msv z))), (m9, .inl (K 0, 16, .inl xr))] := hD
    have h17 : rv18 = 0 := h17
    exact gW_iret (v := rv18) ((n, mask, vf, sf), z, sy, 1, xr) hx hb hr hlk (rfl) hK hP hD hS (Or.inr (by have hh9 : thPl n k = 1 := (by unfold thPl; exact if_neg (fun h => c18 (pl_le (by omega) hnl.2 h))); rw [hh9]; exact ⟨by decide, rfl, h17⟩)) dX4_roll_26

set_option maxHeartbeats 4000000 in
set_option maxRecDepth 100000 in
theorem c_X4_append (l : Launch) (D : va_G) (K : Nat → ClassId) (m0 : Nat) (m1 : Nat) (m2 : Nat) (m3 : Nat) (m4 : Nat) (m5 : Nat) (m6 : Nat) (m7 : Nat) (m8 : Nat) (m9 : Nat) (m10 : Nat) (th : Int32) (sy : Nat) (ly : Nat) (py : Nat) (ay : Nat) (iw : Bool) (ty : Nat) (hy : Int64) (bf : Nat → Int32) (ch : Int32) (hln : ly ≤ 60) : MWi l yX4_append wsX4_append ({ frames := 1, cells := 0, slots := 0, locals := 22 } : Room) D (gTy K) [.ref m0, .int ch] [(m0, .inr (4, [.int th, .ref m1, .ref m2, .ref m3, .int (nI sy), .ref m4, .int (nI ly), .ref m5, .ref m6, .int (nI py), .ref m7, .ref m8, .ref m9, .int (nI ay), .int (if iw = true then 1 else 0), .ref m10, .int (nI ty), .long hy])), (m4, .inl (K 0, 60, .inl bf))] (fun (u : Nat × (Nat → Int32) × Int32) => [(m0, .inr (4, [.int u.2.2, .ref m1, .ref m2, .ref m3, .int (nI sy), .ref m4, .int (nI u.1), .ref m5, .ref m6, .int (nI py), .ref m7, .ref m8, .ref m9, .int (nI ay), .int (if iw = true then 1 else 0), .ref m10, .int (nI ty), .long hy])), (m4, .inl (K 0, 60, .inl u.2.1))]) (fun r (u : Nat × (Nat → Int32) × Int32) => (thApp ly ch = 0 ∧ u = (ly + 1, upd bf ly ch, 0) ∧ r = nI (ly + 1)) ∨ (¬ thApp ly ch = 0 ∧ u = (ly, bf, nI (thApp ly ch)) ∧ r = 0)) 0 0 := by
  refine g_ofW (Qc := fun A => va_Qi _ (gB D (gTy K) A _) A) (cc := cX4_append) (maxL := 2) (ret := (some .int)) (own := RX4) (by decide) rfl rfl (Nat.le_of_ble_eq_true rfl) ?_
  intro pp ee s mm below meth cc A hfx hnm hK hP hD hE hS hA ls hl
  obtain ⟨hx, hb, hr, hml, hown, hts, hlk⟩ := hfx
  have hl : lv_has ls 2 [(0, .ref m0), (1, .int ch)] := hl
  have hi4 : ∀ w ∈ u_ws RX4 TX4 18, w ∈ wsX4_append := fun w h => List.mem_cons_of_mem _ (List.mem_append_right _ (h))
  refine lv_aload_n hx hb dX4_append_0 rfl (lv_at hl 0 rfl) ?_
  refine lv_iconst (v := 0) hx hb dX4_append_1 (by decide) ?_
  refine va_put (D := D) (ci := 4) (v := .int 0) (ty := .int) (C := RX4) (T := TX4) (N := 18) hx hb hts hi4 tyX4 tyX4_ok nmX4 hown hK hP hD hS 0 rfl rfl 0 (by decide) (hts (.fieldLink RX4 40 "PairedChannelsModel" "thrown" "I") (List.mem_of_getElem? (i := 1) (by decide +kernel))) (fun _ h9 => h9) rfl (by decide +kernel) (rfl) (rfl) (Nat.le_of_ble_eq_true rfl) dX4_append_2 (fun H locs hP hD hS => ?_)
  have hP : va_P D vwCl [(m0, .inr (4, [.int 0, .ref m1, .ref m2, .ref m3, .int (nI sy), .ref m4, .int (nI ly), .ref m5, .ref m6, .int (nI py), .ref m7, .ref m8, .ref m9, .int (nI ay), .int (if iw = true then 1 else 0), .ref m10, .int (nI ty), .long hy])), (m4, .inl (K 0, 60, .inl bf))] _ := hP
  have hD : va_D A [(m0, .inr (4, [.int 0, .ref m1, .ref m2, .ref m3, .int (nI sy), .ref m4, .int (nI ly), .ref m5, .ref m6, .int (nI py), .ref m7, .ref m8, .ref m9, .int (nI ay), .int (if iw = true then 1 else 0), .ref m10, .int (nI ty), .long hy])), (m4, .inl (K 0, 60, .inl bf))] := hD
  refine lv_iload_n hx hb dX4_append_5 rfl (lv_at hl 1 rfl) ?_
  refine lv_bipush (v := 33) hx hb dX4_append_6 (by decide) ?_
  refine lv_bipush (v := 126) hx hb dX4_append_8 (by decide) ?_
  refine gR_i (va_runS (As := [.int ch, .int 33, .int 126]) (rest := []) ⟨hx, hb, hml, hown, hts⟩ (c_X4_in l D K ch 33 126 ) (va_cwS 3 hts gX4_append_X4_in rfl rfl rfl (by decide +kernel) ⟨Nat.le_of_ble_eq_true rfl, Nat.le_of_ble_eq_true rfl⟩) (gR_pre hE hS hK hP [] rfl) rfl rfl hl.1 rfl (lv_room (Nat.le_of_ble_eq_true rfl)) dX4_append_10 ⟨Nat.le_of_ble_eq_true rfl, Nat.le_of_ble_eq_true rfl⟩) hS hP (fun rv2 H locs h1 hP hS => ?_)
  have h1 : rv2 = (if 33 ≤ ch ∧ ch ≤ 126 then 1 else 0) := h1
  subst h1
  refine lv_if_ne (tgt := 22) hx hb dX4_append_13 (by decide) (fun c13 => ?_) (fun c13 => ?_)
  · skip
    have c13 : 33 ≤ ch ∧ ch ≤ 126 := b_ne0 c13
    refine lv_aload_n hx hb dX4_append_22 rfl (lv_at hl 0 rfl) ?_
    refine va_get (D := D) (ci := 4) (v := .int (nI ly)) (C := RX4) (T := TX4) (N := 18) hx hb hts hi4 hown hK hP 0 rfl rfl 6 (by decide) (hts (.fieldLink RX4 153 "PairedChannelsModel" "length" "I") (List.mem_of_getElem? (i := 2) (by decide +kernel))) (fun _ h9 => h9) rfl dX4_append_23 ?_
    refine lv_bipush (v := 60) hx hb dX4_append_26 (by decide) ?_
    refine lv_icmp_ne (tgt := 37) hx hb dX4_append_28 (by decide) (fun c28 => ?_) (fun c28 => ?_)
    · skip
      have c28 : ¬ ly = 60 := fun h9 => c28 ((nI_eq (a := ly) (b := 60) (by omega) (by omega)).mpr h9)
      refine lv_aload_n hx hb dX4_append_37 rfl (lv_at hl 0 rfl) ?_
      refine va_get (D := D) (ci := 4) (v := .ref m4) (C := RX4) (T := TX4) (N := 18) hx hb hts hi4 hown hK hP 0 rfl rfl 5 (by decide) (hts (.fieldLink RX4 19 "PairedChannelsModel" "buffer" "[I") (List.mem_of_getElem? (i := 3) (by decide +kernel))) (fun _ h9 => h9) rfl dX4_append_38 ?_
      refine lv_aload_n hx hb dX4_append_41 rfl (lv_at hl 0 rfl) ?_
      refine va_get (D := D) (ci := 4) (v := .int (nI ly)) (C := RX4) (T := TX4) (N := 18) hx hb hts hi4 hown hK hP 0 rfl rfl 6 (by decide) (hts (.fieldLink RX4 153 "PairedChannelsModel" "length" "I") (List.mem_of_getElem? (i := 2) (by decide +kernel))) (fun _ h9 => h9) rfl dX4_append_42 ?_
      refine lv_iload_n hx hb dX4_append_45 rfl (lv_at hl 1 rfl) ?_
      refine wa_iast (x := ch) hx hb hK hP hD hS 1 0 rfl rfl (ly) rfl (by omega) (by decide) dX4_append_46 (fun H locs hP hD hS => ?_)
      have hP : va_P D vwCl [(m0, .inr (4, [.int 0, .ref m1, .ref m2, .ref m3, .int (nI sy), .ref m4, .int (nI ly), .ref m5, .ref m6, .int (nI py), .ref m7, .ref m8, .ref m9, .int (nI ay), .int (if iw = true then 1 else 0), .ref m10, .int (nI ty), .long hy])), (m4, .inl (K 0, 60, .inl (upd bf ly ch)))] _ := hP
      have hD : va_D A [(m0, .inr (4, [.int 0, .ref m1, .ref m2, .ref m3, .int (nI sy), .ref m4, .int (nI ly), .ref m5, .ref m6, .int (nI py), .ref m7, .ref m8, .ref m9, .int (nI ay), .int (if iw = true then 1 else 0), .ref m10, .int (nI ty), .long hy])), (m4, .inl (K 0, 60, .inl (upd bf ly ch)))] := hD
      refine lv_aload_n hx hb dX4_append_47 rfl (lv_at hl 0 rfl) ?_
      refine lv_dup hx hb dX4_append_48 rfl ?_
      refine va_get (D := D) (ci := 4) (v := .int (nI ly)) (C := RX4) (T := TX4) (N := 18) hx hb hts hi4 hown hK hP 0 rfl rfl 6 (by decide) (hts (.fieldLink RX4 153 "PairedChannelsModel" "length" "I") (List.mem_of_getElem? (i := 2) (by decide +kernel))) (fun _ h9 => h9) rfl dX4_append_49 ?_
      refine lv_iconst (v := 1) hx hb dX4_append_52 (by decide) ?_
      refine lv_iadd hx hb dX4_append_53 ?_
      refine lv_eqi (nI (ly + 1)) (nI_add ly 1) ?_
      refine va_put (D := D) (ci := 4) (v := .int (nI (ly + 1))) (ty := .int) (C := RX4) (T := TX4) (N := 18) hx hb hts hi4 tyX4 tyX4_ok nmX4 hown hK hP hD hS 0 rfl rfl 6 (by decide) (hts (.fieldLink RX4 153 "PairedChannelsModel" "length" "I") (List.mem_of_getElem? (i := 2) (by decide +kernel))) (fun _ h9 => h9) rfl (by decide +kernel) (rfl) (rfl) (Nat.le_of_ble_eq_true rfl) dX4_append_54 (fun H locs hP hD hS => ?_)
      have hP : va_P D vwCl [(m0, .inr (4, [.int 0, .ref m1, .ref m2, .ref m3, .int (nI sy), .ref m4, .int (nI (ly + 1)), .ref m5, .ref m6, .int (nI py), .ref m7, .ref m8, .ref m9, .int (nI ay), .int (if iw = true then 1 else 0), .ref m10, .int (nI ty), .long hy])), (m4, .inl (K 0, 60, .inl (upd bf ly ch)))] _ := hP
      have hD : va_D A [(m0, .inr (4, [.int 0, .ref m1, .ref m2, .ref m3, .int (nI sy), .ref m4, .int (nI (ly + 1)), .ref m5, .ref m6, .int (nI py), .ref m7, .ref m8, .ref m9, .int (nI ay), .int (if iw = true then 1 else 0), .ref m10, .int (nI ty), .long hy])), (m4, .inl (K 0, 60, .inl (upd bf ly ch)))] := hD
      refine lv_aload_n hx hb dX4_append_57 rfl (lv_at hl 0 rfl) ?_
      refine va_get (D := D) (ci := 4) (v := .int (nI (ly + 1))) (C := RX4) (T := TX4) (N := 18) hx hb hts hi4 hown hK hP 0 rfl rfl 6 (by decide) (hts (.fieldLink RX4 153 "PairedChannelsModel" "length" "I") (List.mem_of_getElem? (i := 2) (by decide +kernel))) (fun _ h9 => h9) rfl dX4_append_58 ?_
      exact gW_iret (v := nI (ly + 1)) (ly + 1, upd bf ly ch, 0) hx hb hr hlk (rfl) hK hP hD hS (Or.inl ⟨by unfold thApp; exact (if_pos c13).trans (if_pos (by omega)), rfl, rfl⟩) dX4_append_61
    · skip
      have c28 : ly = 60 := (nI_eq (a := ly) (b := 60) (by omega) (by omega)).mp c28
      refine lv_aload_n hx hb dX4_append_31 rfl (lv_at hl 0 rfl) ?_
      refine lv_iconst (v := 2) hx hb dX4_append_32 (by decide) ?_
      refine gW_i (wr := [(m4, .inl (K 0, 60, .inl bf))]) (W2 := (fun (u : Unit) => [(m0, .inr (4, [.int 2, .ref m1, .ref m2, .ref m3, .int (nI sy), .ref m4, .int (nI ly), .ref m5, .ref m6, .int (nI py), .ref m7, .ref m8, .ref m9, .int (nI ay), .int (if iw = true then 1 else 0), .ref m10, .int (nI ty), .long hy])), (m4, .inl (K 0, 60, .inl bf))])) (va_runV (As := [.int 2]) (rest := []) ⟨hx, hb, hml, hown, hts⟩ ((c_X4_fails l D K m0 m1 m2 m3 m4 m5 m6 m7 m8 m9 m10 0 sy ly py ay iw ty hy 2 ) _) (cwV 1 hts gX4_append_X4_fails rfl rfl rfl (by decide +kernel) ⟨Nat.le_of_ble_eq_true rfl, Nat.le_of_ble_eq_true rfl⟩) (gW_preV hE hS hK hP hD hA [0] rfl (by decide) 0 rfl rfl rfl) rfl rfl hl.1 rfl (lv_room (Nat.le_of_ble_eq_true rfl)) dX4_append_33 ⟨Nat.le_of_ble_eq_true rfl, Nat.le_of_ble_eq_true rfl⟩) hS hP hD hA [0] [1] [1, 0] rfl rfl (by decide) (by decide) (by decide) (fun _ => rfl) (fun rv7 u5 H locs h6 hP hD hS => ?_)
      have hP : va_P D vwCl [(m0, .inr (4, [.int 2, .ref m1, .ref m2, .ref m3, .int (nI sy), .ref m4, .int (nI ly), .ref m5, .ref m6, .int (nI py), .ref m7, .ref m8, .ref m9, .int (nI ay), .int (if iw = true then 1 else 0), .ref m10, .int (nI ty), .long hy])), (m4, .inl (K 0, 60, .inl bf))] _ := hP
      have hD : va_D A [(m0, .inr (4, [.int 2, .ref m1, .ref m2, .ref m3, .int (nI sy), .ref m4, .int (nI ly), .ref m5, .ref m6, .int (nI py), .ref m7, .ref m8, .ref m9, .int (nI ay), .int (if iw = true then 1 else 0), .ref m10, .int (nI ty), .long hy])), (m4, .inl (K 0, 60, .inl bf))] := hD
      have h6 : rv7 = 0 := h6
      exact gW_iret (v := rv7) (ly, bf, 2) hx hb hr hlk (rfl) hK hP hD hS (Or.inr (by have hh9 : thApp ly ch = 2 := (by unfold thApp; exact (if_pos c13).trans (if_neg (by omega))); rw [hh9]; exact ⟨by decide, rfl, h6⟩)) dX4_append_36
  · skip
    have c13 : ¬ (33 ≤ ch ∧ ch ≤ 126) := b_eq0 c13
    refine lv_aload_n hx hb dX4_append_16 rfl (lv_at hl 0 rfl) ?_
    refine lv_iconst (v := 1) hx hb dX4_append_17 (by decide) ?_
    refine gW_i (wr := [(m4, .inl (K 0, 60, .inl bf))]) (W2 := (fun (u : Unit) => [(m0, .inr (4, [.int 1, .ref m1, .ref m2, .ref m3, .int (nI sy), .ref m4, .int (nI ly), .ref m5, .ref m6, .int (nI py), .ref m7, .ref m8, .ref m9, .int (nI ay), .int (if iw = true then 1 else 0), .ref m10, .int (nI ty), .long hy])), (m4, .inl (K 0, 60, .inl bf))])) (va_runV (As := [.int 1]) (rest := []) ⟨hx, hb, hml, hown, hts⟩ ((c_X4_fails l D K m0 m1 m2 m3 m4 m5 m6 m7 m8 m9 m10 0 sy ly py ay iw ty hy 1 ) _) (cwV 1 hts gX4_append_X4_fails rfl rfl rfl (by decide +kernel) ⟨Nat.le_of_ble_eq_true rfl, Nat.le_of_ble_eq_true rfl⟩) (gW_preV hE hS hK hP hD hA [0] rfl (by decide) 0 rfl rfl rfl) rfl rfl hl.1 rfl (lv_room (Nat.le_of_ble_eq_true rfl)) dX4_append_18 ⟨Nat.le_of_ble_eq_true rfl, Nat.le_of_ble_eq_true rfl⟩) hS hP hD hA [0] [1] [1, 0] rfl rfl (by decide) (by decide) (by decide) (fun _ => rfl) (fun rv10 u8 H locs h9 hP hD hS => ?_)
    have hP : va_P D vwCl [(m0, .inr (4, [.int 1, .ref m1, .ref m2, .ref m3, .int (nI sy), .ref m4, .int (nI ly), .ref m5, .ref m6, .int (nI py), .ref m7, .ref m8, .ref m9, .int (nI ay), .int (if iw = true then 1 else 0), .ref m10, .int (nI ty), .long hy])), (m4, .inl (K 0, 60, .inl bf))] _ := hP
    have hD : va_D A [(m0, .inr (4, [.int 1, .ref m1, .ref m2, .ref m3, .int (nI sy), .ref m4, .int (nI ly), .ref m5, .ref m6, .int (nI py), .ref m7, .ref m8, .ref m9, .int (nI ay), .int (if iw = true then 1 else 0), .ref m10, .int (nI ty), .long hy])), (m4, .inl (K 0, 60, .inl bf))] := hD
    have h9 : rv10 = 0 := h9
    exact gW_iret (v := rv10) (ly, bf, 1) hx hb hr hlk (rfl) hK hP hD hS (Or.inr (by have hh9 : thApp ly ch = 1 := (by unfold thApp; exact if_neg c13); rw [hh9]; exact ⟨by decide, rfl, h9⟩)) dX4_append_21
