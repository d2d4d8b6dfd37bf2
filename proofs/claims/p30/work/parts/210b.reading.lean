set_option maxHeartbeats 4000000 in
set_option maxRecDepth 100000 in
theorem c_X0_hear (l : Launch) (D : va_G) (K : Nat → ClassId) (r0 : Nat) (r1 : Nat) (r2 : Nat) (r3 : Nat) (r4 : Nat) (r5 : Nat) (r6 : Nat) (r7 : Nat) (r8 : Nat) (n : Nat) (ig : Int32) (ip : Int32) (ir : Int32) (b : Int32) (pl : Nat) (fr : Nat → Int32) (fw : Nat → Int32) (hn : okN n) (hp : pl < n) : MWi l yX0_hear wsX0_hear ({ frames := 1, cells := 0, slots := 0, locals := 40 } : Room) D (gTy K) [.ref r0, .int b, .int (nI pl)] [(r0, .inr (0, [.ref r1, .ref r2, .ref r3, .ref r4, .ref r5, .ref r6, .ref r7, .ref r8, .int ig, .int (nI n), .int ip, .int ir])), (r1, .inl (K 0, 16, .inl fr)), (r2, .inl (K 0, 16, .inl fw))] (fun (u : Nat → Int32) => [(r0, .inr (0, [.ref r1, .ref r2, .ref r3, .ref r4, .ref r5, .ref r6, .ref r7, .ref r8, .int ig, .int (nI n), .int ip, .int ir])), (r1, .inl (K 0, 16, .inl fr)), (r2, .inl (K 0, 16, .inl u))]) (fun r (u : Nat → Int32) => r = hea n fr pl b) 0 0 := by
  refine g_ofW (Qc := fun A => va_Qi _ (gB D (gTy K) A _) A) (cc := cX0_hear) (maxL := 6) (ret := (some .int)) (own := RX0) (by decide) rfl rfl (Nat.le_of_ble_eq_true rfl) ?_
  intro pp ee s mm below meth cc A hfx hnm hK hP hD hE hS hA ls hl
  obtain ⟨hx, hb, hr, hml, hown, hts, hlk⟩ := hfx
  have hl : lv_has ls 6 [(0, .ref r0), (1, .int b), (2, .int (nI pl))] := hl
  have hi0 : ∀ w ∈ u_ws RX0 TX0 12, w ∈ wsX0_hear := fun w h => List.mem_cons_of_mem _ (List.mem_append_right _ (h))
  have hnl := hn.le
  refine lv_aload_n hx hb dX0_hear_0 rfl (lv_at hl 0 rfl) ?_
  refine va_get (D := D) (ci := 0) (v := .ref r1) (C := RX0) (T := TX0) (N := 12) hx hb hts hi0 hown hK hP 0 rfl rfl 0 (by decide) (hts (.fieldLink RX0 9 "PairedChannels$Reading" "received" "[I") (List.mem_of_getElem? (i := 1) (by decide +kernel))) (fun _ h9 => h9) rfl dX0_hear_1 ?_
  refine lv_iconst (v := 0) hx hb dX0_hear_4 (by decide) ?_
  refine lv_aload_n hx hb dX0_hear_5 rfl (lv_at hl 0 rfl) ?_
  refine va_get (D := D) (ci := 0) (v := .ref r2) (C := RX0) (T := TX0) (N := 12) hx hb hts hi0 hown hK hP 0 rfl rfl 1 (by decide) (hts (.fieldLink RX0 15 "PairedChannels$Reading" "row" "[I") (List.mem_of_getElem? (i := 2) (by decide +kernel))) (fun _ h9 => h9) rfl dX0_hear_6 ?_
  refine lv_iconst (v := 0) hx hb dX0_hear_9 (by decide) ?_
  refine lv_bipush (v := 16) hx hb dX0_hear_10 (by decide) ?_
  refine va_copyi (ty := .int) hx hb (hml.trans hl.1.symm) hown (hts (.methodLink RX0 101 arraycopyName) (List.mem_of_getElem? (i := 3) (by decide +kernel))) (hts (.native arraycopyName) (List.mem_of_getElem? (i := 4) (by decide +kernel))) (hts (.static arraycopyName) (List.mem_of_getElem? (i := 5) (by decide +kernel))) (hts (.initialized "java/lang/System") (List.mem_of_getElem? (i := 6) (by decide +kernel))) hK hP hD hS 1 2 0 0 rfl rfl rfl rfl rfl (by decide) (by decide) (by decide) (by decide) (by decide) (fun _ _ => rfl) (Nat.le_of_ble_eq_true rfl) (by decide) dX0_hear_12 (fun H locs hP hD hS => ?_)
  have hP : va_P D vwCl [(r0, .inr (0, [.ref r1, .ref r2, .ref r3, .ref r4, .ref r5, .ref r6, .ref r7, .ref r8, .int ig, .int (nI n), .int ip, .int ir])), (r1, .inl (K 0, 16, .inl fr)), (r2, .inl (K 0, 16, .inl (va_cpy fr fw (0 : Int32).toNatClampNeg (0 : Int32).toNatClampNeg (16 : Int32).toNatClampNeg)))] _ := hP
  have hD : va_D A [(r0, .inr (0, [.ref r1, .ref r2, .ref r3, .ref r4, .ref r5, .ref r6, .ref r7, .ref r8, .int ig, .int (nI n), .int ip, .int ir])), (r1, .inl (K 0, 16, .inl fr)), (r2, .inl (K 0, 16, .inl (va_cpy fr fw (0 : Int32).toNatClampNeg (0 : Int32).toNatClampNeg (16 : Int32).toNatClampNeg)))] := hD
  have hP : va_P D vwCl [(r0, .inr (0, [.ref r1, .ref r2, .ref r3, .ref r4, .ref r5, .ref r6, .ref r7, .ref r8, .int ig, .int (nI n), .int ip, .int ir])), (r1, .inl (K 0, 16, .inl fr)), (r2, .inl (K 0, 16, .inl fr))] _ := gP_ext hP 2 rfl (cpy_in 16 rfl)
  have hD : va_D A [(r0, .inr (0, [.ref r1, .ref r2, .ref r3, .ref r4, .ref r5, .ref r6, .ref r7, .ref r8, .int ig, .int (nI n), .int ip, .int ir])), (r1, .inl (K 0, 16, .inl fr)), (r2, .inl (K 0, 16, .inl fr))] := gD_ext hD 2 rfl
  refine lv_iload_n hx hb dX0_hear_15 rfl (lv_at hl 2 rfl) ?_
  refine lv_istore_n (lv' := [(3, .int (nI pl)), (0, .ref r0), (1, .int b), (2, .int (nI pl))]) hx hb dX0_hear_16 rfl hl (by decide) rfl (fun ls hl => ?_)
  refine lv_aload_n hx hb dX0_hear_17 rfl (lv_at hl 1 rfl) ?_
  refine va_get (D := D) (ci := 0) (v := .int (nI n)) (C := RX0) (T := TX0) (N := 12) hx hb hts hi0 hown hK hP 0 rfl rfl 9 (by decide) (hts (.fieldLink RX0 43 "PairedChannels$Reading" "places" "I") (List.mem_of_getElem? (i := 7) (by decide +kernel))) (fun _ h9 => h9) rfl dX0_hear_18 ?_
  refine lv_iconst (v := 2) hx hb dX0_hear_21 (by decide) ?_
  refine lv_idiv hx hb dX0_hear_22 (by decide) ?_
  refine lv_eqi (nI (n / 2)) (pk_div (a := n) (d := 2) (by omega) (by omega) (by omega)) ?_
  refine lv_eqi (nI (2 ^ (lg n) / 2)) (by rw [← lg_pow hn.n1]) ?_
  refine lv_istore (lv' := [(4, .int (nI (2 ^ (lg n) / 2))), (3, .int (nI pl)), (0, .ref r0), (1, .int b), (2, .int (nI pl))]) hx hb dX0_hear_23 hl (by decide) rfl (fun ls hl => ?_)
  refine g_loopD (st := []) (N := (lg n)) (fun k H locs ls => ∃ rs : Nat, ∃ rww : Nat → Int32, (k ≤ 4 ∧ rs < 2 ^ k ∧ rs ≤ pl ∧ hearF b pl k rs rww = hea n fr pl b) ∧ va_P D vwCl [(r0, .inr (0, [.ref r1, .ref r2, .ref r3, .ref r4, .ref r5, .ref r6, .ref r7, .ref r8, .int ig, .int (nI n), .int ip, .int ir])), (r1, .inl (K 0, 16, .inl fr)), (r2, .inl (K 0, 16, .inl rww))] H ∧ va_D A [(r0, .inr (0, [.ref r1, .ref r2, .ref r3, .ref r4, .ref r5, .ref r6, .ref r7, .ref r8, .int ig, .int (nI n), .int ip, .int ir])), (r1, .inl (K 0, 16, .inl fr)), (r2, .inl (K 0, 16, .inl rww))] ∧ va_S A s.heap H locs ∧ lv_has ls 6 [(4, .int (nI (2 ^ k / 2))), (3, .int (nI rs)), (0, .ref r0), (1, .int b), (2, .int (nI pl))])  ?_ ?_ ?_
  · intro H locs ls hI
    obtain ⟨rs, rww, ⟨hk4, hrs, hrp, hz⟩, hP, hD, hS, hl⟩ := hI
    refine lv_iload hx hb dX0_hear_25 (lv_at hl 0 rfl) ?_
    refine lv_if_le (tgt := 86) hx hb dX0_hear_27 (by decide) (fun c0 => ?_) (fun c0 => ?_)
    · skip
      have c0 : 2 ^ 0 / 2 ≤ 0 := (nI_leI (a := 2 ^ 0 / 2) (b := 0) (by omega) (by omega)).mp c0
      refine lv_aload_n hx hb dX0_hear_86 rfl (lv_at hl 2 rfl) ?_
      refine va_get (D := D) (ci := 0) (v := .ref r2) (C := RX0) (T := TX0) (N := 12) hx hb hts hi0 hown hK hP 0 rfl rfl 1 (by decide) (hts (.fieldLink RX0 15 "PairedChannels$Reading" "row" "[I") (List.mem_of_getElem? (i := 2) (by decide +kernel))) (fun _ h9 => h9) rfl dX0_hear_87 ?_
      refine lv_iconst (v := 0) hx hb dX0_hear_90 (by decide) ?_
      refine wa_iald hx hb hK hP 2 0 rfl rfl (0) rfl (by omega) (by decide) dX0_hear_91 ?_
      exact gW_iret (v := rww 0) rww hx hb hr hlk (rfl) hK hP hD hS (hz) dX0_hear_92
    · skip
      have c0 : ¬ 2 ^ 0 / 2 ≤ 0 := fun h9 => c0 ((nI_leI (a := 2 ^ 0 / 2) (b := 0) (by omega) (by omega)).mpr h9)
      exact absurd c0 (by decide)
  · intro k ih1 H locs ls hI
    obtain ⟨rs, rww, ⟨hk4, hrs, hrp, hz⟩, hP, hD, hS, hl⟩ := hI
    have hpw := pw_le hk4
    have hph := pw_half k
    have hps := pw_s k
    have hpk := pw_le (k := k) (by omega)
    refine lv_iload hx hb dX0_hear_25 (lv_at hl 0 rfl) ?_
    refine lv_if_le (tgt := 86) hx hb dX0_hear_27 (by decide) (fun c0 => ?_) (fun c0 => ?_)
    · skip
      have c0 : 2 ^ (k + 1) / 2 ≤ 0 := (nI_leI (a := 2 ^ (k + 1) / 2) (b := 0) (by omega) (by omega)).mp c0
      omega
    · skip
      have c0 : ¬ 2 ^ (k + 1) / 2 ≤ 0 := fun h9 => c0 ((nI_leI (a := 2 ^ (k + 1) / 2) (b := 0) (by omega) (by omega)).mpr h9)
      have e9 : (nI (2 ^ (k + 1) / 2)) = (nI (2 ^ k)) := by rw [hph]
      rw [e9] at hl
      refine lv_iload_n hx hb dX0_hear_30 rfl (lv_at hl 1 rfl) ?_
      refine lv_iload hx hb dX0_hear_31 (lv_at hl 0 rfl) ?_
      refine lv_icmp_ge (tgt := 45) hx hb dX0_hear_33 (by decide) (fun c4 => ?_) (fun c4 => ?_)
      · skip
        have c4 : 2 ^ k ≤ rs := (nI_leI (a := 2 ^ k) (b := rs) (by omega) (by omega)).mp c4
        refine lv_iload_n hx hb dX0_hear_45 rfl (lv_at hl 3 rfl) ?_
        refine lv_iload_n hx hb dX0_hear_46 rfl (lv_at hl 4 rfl) ?_
        refine lv_iload_n hx hb dX0_hear_47 rfl (lv_at hl 1 rfl) ?_
        refine lv_isub hx hb dX0_hear_48 ?_
        refine lv_eqi (nI (pl - rs)) (pk_sub hrp) ?_
        refine lv_ishr hx hb dX0_hear_49 ?_
        refine lv_iconst (v := 1) hx hb dX0_hear_50 (by decide) ?_
        refine lv_iload hx hb dX0_hear_51 (lv_at hl 0 rfl) ?_
        refine lv_ishl hx hb dX0_hear_53 ?_
        refine lv_iconst (v := 1) hx hb dX0_hear_54 (by decide) ?_
        refine lv_isub hx hb dX0_hear_55 ?_
        refine lv_iand hx hb dX0_hear_56 ?_
        refine lv_istore (lv' := [(5, .int ((b >>> ((nI (pl - rs)) &&& 31)) &&& ((1 <<< ((nI (2 ^ k)) &&& 31)) - 1))), (4, .int (nI (2 ^ k))), (3, .int (nI rs)), (0, .ref r0), (1, .int b), (2, .int (nI pl))]) hx hb dX0_hear_57 hl (by decide) rfl (fun ls hl => ?_)
        refine lv_aload_n hx hb dX0_hear_59 rfl (lv_at hl 3 rfl) ?_
        refine lv_iload hx hb dX0_hear_60 (lv_at hl 1 rfl) ?_
        refine lv_iload hx hb dX0_hear_62 (lv_at hl 0 rfl) ?_
        refine lv_iload hx hb dX0_hear_64 (lv_at hl 1 rfl) ?_
        refine gR_i (va_runSN (host := RX3) (As := [.int ((b >>> ((nI (pl - rs)) &&& 31)) &&& ((1 <<< ((nI (2 ^ k)) &&& 31)) - 1)), .int (nI (2 ^ k))]) (rest := [.int (nI (2 ^ k)), .ref r0]) ⟨hx, hb, hml, hown, hts⟩ (c_X3_coded l D K ((b >>> ((nI (pl - rs)) &&& 31)) &&& ((1 <<< ((nI (2 ^ k)) &&& 31)) - 1)) (2 ^ k) (okN1_pow (by omega))) ⟨va_cnB 2 hts gX0_hear_X3_coded_n110 rfl rfl rfl (hE.1 (RX0, 110, yX3_coded) (List.mem_of_getElem? (i := 2) rfl)) (hts (.initialized RX3) (List.mem_of_getElem? (i := 14) (by decide +kernel))) (by decide +kernel) ⟨Nat.le_of_ble_eq_true rfl, Nat.le_of_ble_eq_true rfl⟩, (hts (.static yX3_coded) (List.mem_of_getElem? (i := 13) (by decide +kernel))), trivial⟩ (gR_pre hE hS hK hP [] rfl) rfl rfl hl.1 rfl (lv_room (Nat.le_of_ble_eq_true rfl)) dX0_hear_66 ⟨Nat.le_of_ble_eq_true rfl, Nat.le_of_ble_eq_true rfl⟩) hS hP (fun rv6 H locs h5 hP hS => ?_)
        have h5 : rv6 = cod ((b >>> ((nI (pl - rs)) &&& 31)) &&& ((1 <<< ((nI (2 ^ k)) &&& 31)) - 1)) (2 ^ k) := h5
        subst h5
        refine lv_eqi (cod (b >>> (nI (pl - rs) &&& 31)) (2 ^ k)) (cod_mask _ _) ?_
        refine gW_v (wr := [(r1, .inl (K 0, 16, .inl fr))]) (W2 := (fun (u : Unit) => [(r0, .inr (0, [.ref r1, .ref r2, .ref r3, .ref r4, .ref r5, .ref r6, .ref r7, .ref r8, .int ig, .int (nI n), .int ip, .int ir])), (r1, .inl (K 0, 16, .inl fr)), (r2, .inl (K 0, 16, .inl (prR (2 ^ k) (cod (b >>> (nI (pl - rs) &&& 31)) (2 ^ k)) rww (2 ^ k))))])) (va_runV (As := [.int (nI (2 ^ k)), .int (cod (b >>> (nI (pl - rs) &&& 31)) (2 ^ k))]) (rest := []) ⟨hx, hb, hml, hown, hts⟩ ((c_X0_pairRead l D K r0 r1 r2 r3 r4 r5 r6 r7 r8 n ig ip ir (2 ^ k) (cod (b >>> (nI (pl - rs) &&& 31)) (2 ^ k)) rww (by omega)) _) (cwV 2 hts gX0_hear_X0_pairRead rfl rfl rfl (by decide +kernel) ⟨Nat.le_of_ble_eq_true rfl, Nat.le_of_ble_eq_true rfl⟩) (gW_preV hE hS hK hP hD hA [0, 2] rfl (by decide) 0 rfl rfl rfl) rfl rfl hl.1 rfl (lv_room (Nat.le_of_ble_eq_true rfl)) dX0_hear_69 ⟨Nat.le_of_ble_eq_true rfl, Nat.le_of_ble_eq_true rfl⟩) hS hP hD hA [0, 2] [1] [1, 0, 2] rfl rfl (by decide) (by decide) (by decide) (fun _ => rfl) (fun u7 H locs h8 hP hD hS => ?_)
        have hP : va_P D vwCl [(r0, .inr (0, [.ref r1, .ref r2, .ref r3, .ref r4, .ref r5, .ref r6, .ref r7, .ref r8, .int ig, .int (nI n), .int ip, .int ir])), (r1, .inl (K 0, 16, .inl fr)), (r2, .inl (K 0, 16, .inl (prR (2 ^ k) (cod (b >>> (nI (pl - rs) &&& 31)) (2 ^ k)) rww (2 ^ k))))] _ := hP
        have hD : va_D A [(r0, .inr (0, [.ref r1, .ref r2, .ref r3, .ref r4, .ref r5, .ref r6, .ref r7, .ref r8, .int ig, .int (nI n), .int ip, .int ir])), (r1, .inl (K 0, 16, .inl fr)), (r2, .inl (K 0, 16, .inl (prR (2 ^ k) (cod (b >>> (nI (pl - rs) &&& 31)) (2 ^ k)) rww (2 ^ k))))] := hD
        refine lv_iload_n hx hb dX0_hear_72 rfl (lv_at hl 2 rfl) ?_
        refine lv_iload hx hb dX0_hear_73 (lv_at hl 1 rfl) ?_
        refine lv_isub hx hb dX0_hear_75 ?_
        refine lv_eqi (nI (rs - 2 ^ k)) (pk_sub (by omega)) ?_
        refine lv_istore_n (lv' := [(3, .int (nI (rs - 2 ^ k))), (5, .int ((b >>> ((nI (pl - rs)) &&& 31)) &&& ((1 <<< ((nI (2 ^ k)) &&& 31)) - 1))), (4, .int (nI (2 ^ k))), (0, .ref r0), (1, .int b), (2, .int (nI pl))]) hx hb dX0_hear_76 rfl hl (by decide) rfl (fun ls hl => ?_)
        refine lv_iload hx hb dX0_hear_77 (lv_at hl 2 rfl) ?_
        refine lv_iconst (v := 2) hx hb dX0_hear_79 (by decide) ?_
        refine lv_idiv hx hb dX0_hear_80 (by decide) ?_
        refine lv_eqi (nI ((2 ^ k) / 2)) (pk_div (a := 2 ^ k) (d := 2) (by omega) (by omega) (by omega)) ?_
        refine lv_istore (lv' := [(4, .int (nI ((2 ^ k) / 2))), (3, .int (nI (rs - 2 ^ k))), (5, .int ((b >>> ((nI (pl - rs)) &&& 31)) &&& ((1 <<< ((nI (2 ^ k)) &&& 31)) - 1))), (0, .ref r0), (1, .int b), (2, .int (nI pl))]) hx hb dX0_hear_81 hl (by decide) rfl (fun ls hl => ?_)
        refine lv_goto (tgt := 25) hx hb dX0_hear_83 (by decide) ?_
        exact ih1 H locs ls ⟨rs - 2 ^ k, prR (2 ^ k) (cod (b >>> (nI (pl - rs) &&& 31)) (2 ^ k)) rww (2 ^ k), (⟨by omega, by omega, by omega, by rw [← hz]; show _ = (if rs < 2 ^ k then hearF b pl k rs (puR (2 ^ k) rww (2 ^ k)) else hearF b pl k (rs - 2 ^ k) (prR (2 ^ k) (cod (b >>> (nI (pl - rs) &&& 31)) (2 ^ k)) rww (2 ^ k))); first | (first | exact (g_ip (by omega) rfl) | exact (g_tp (by omega) rfl) | exact (g_ap (by omega) rfl)) | (first | exact (g_in (by omega) rfl) | exact (g_tn (by omega) rfl) | exact (g_an (by omega) rfl))⟩), hP, hD, hS, lv_sub hl [0, 1, 3, 4, 5] rfl⟩
      · skip
        have c4 : ¬ 2 ^ k ≤ rs := fun h9 => c4 ((nI_leI (a := 2 ^ k) (b := rs) (by omega) (by omega)).mpr h9)
        refine lv_aload_n hx hb dX0_hear_36 rfl (lv_at hl 2 rfl) ?_
        refine lv_iload hx hb dX0_hear_37 (lv_at hl 0 rfl) ?_
        refine gW_v (wr := [(r1, .inl (K 0, 16, .inl fr))]) (W2 := (fun (u : Unit) => [(r0, .inr (0, [.ref r1, .ref r2, .ref r3, .ref r4, .ref r5, .ref r6, .ref r7, .ref r8, .int ig, .int (nI n), .int ip, .int ir])), (r1, .inl (K 0, 16, .inl fr)), (r2, .inl (K 0, 16, .inl (puR (2 ^ k) rww (2 ^ k))))])) (va_runV (As := [.int (nI (2 ^ k))]) (rest := []) ⟨hx, hb, hml, hown, hts⟩ ((c_X0_pairUnread l D K r0 r1 r2 r3 r4 r5 r6 r7 r8 n ig ip ir (2 ^ k) rww (by omega)) _) (cwV 1 hts gX0_hear_X0_pairUnread rfl rfl rfl (by decide +kernel) ⟨Nat.le_of_ble_eq_true rfl, Nat.le_of_ble_eq_true rfl⟩) (gW_preV hE hS hK hP hD hA [0, 2] rfl (by decide) 0 rfl rfl rfl) rfl rfl hl.1 rfl (lv_room (Nat.le_of_ble_eq_true rfl)) dX0_hear_39 ⟨Nat.le_of_ble_eq_true rfl, Nat.le_of_ble_eq_true rfl⟩) hS hP hD hA [0, 2] [1] [1, 0, 2] rfl rfl (by decide) (by decide) (by decide) (fun _ => rfl) (fun u10 H locs h11 hP hD hS => ?_)
        have hP : va_P D vwCl [(r0, .inr (0, [.ref r1, .ref r2, .ref r3, .ref r4, .ref r5, .ref r6, .ref r7, .ref r8, .int ig, .int (nI n), .int ip, .int ir])), (r1, .inl (K 0, 16, .inl fr)), (r2, .inl (K 0, 16, .inl (puR (2 ^ k) rww (2 ^ k))))] _ := hP
        have hD : va_D A [(r0, .inr (0, [.ref r1, .ref r2, .ref r3, .ref r4, .ref r5, .ref r6, .ref r7, .ref r8, .int ig, .int (nI n), .int ip, .int ir])), (r1, .inl (K 0, 16, .inl fr)), (r2, .inl (K 0, 16, .inl (puR (2 ^ k) rww (2 ^ k))))] := hD
        refine lv_goto (tgt := 77) hx hb dX0_hear_42 (by decide) ?_
        refine lv_iload hx hb dX0_hear_77 (lv_at hl 0 rfl) ?_
        refine lv_iconst (v := 2) hx hb dX0_hear_79 (by decide) ?_
        refine lv_idiv hx hb dX0_hear_80 (by decide) ?_
        refine lv_eqi (nI ((2 ^ k) / 2)) (pk_div (a := 2 ^ k) (d := 2) (by omega) (by omega) (by omega)) ?_
        refine lv_istore (lv' := [(4, .int (nI ((2 ^ k) / 2))), (3, .int (nI rs)), (0, .ref r0), (1, .int b), (2, .int (nI pl))]) hx hb dX0_hear_81 hl (by decide) rfl (fun ls hl => ?_)
        refine lv_goto (tgt := 25) hx hb dX0_hear_83 (by decide) ?_
        exact ih1 H locs ls ⟨rs, puR (2 ^ k) rww (2 ^ k), (⟨by omega, by omega, by omega, by rw [← hz]; show _ = (if rs < 2 ^ k then hearF b pl k rs (puR (2 ^ k) rww (2 ^ k)) else hearF b pl k (rs - 2 ^ k) (prR (2 ^ k) (cod (b >>> (nI (pl - rs) &&& 31)) (2 ^ k)) rww (2 ^ k))); first | (first | exact (g_ip (by omega) rfl) | exact (g_tp (by omega) rfl) | exact (g_ap (by omega) rfl)) | (first | exact (g_in (by omega) rfl) | exact (g_tn (by omega) rfl) | exact (g_an (by omega) rfl))⟩), hP, hD, hS, lv_sub hl [0, 1, 2, 3, 4] rfl⟩
  · exact ⟨pl, fr, (⟨lg_le hn.n1, by rw [← lg_pow hn.n1]; exact hp, Nat.le_refl _, rfl⟩), hP, hD, hS, lv_sub hl [0, 1, 2, 3, 4] rfl⟩

set_option maxHeartbeats 4000000 in
set_option maxRecDepth 100000 in
theorem c_X0_addGrown (l : Launch) (D : va_G) (K : Nat → ClassId) (r0 : Nat) (r1 : Nat) (r2 : Nat) (r3 : Nat) (r4 : Nat) (r5 : Nat) (r6 : Nat) (r7 : Nat) (r8 : Nat) (n : Nat) (ip : Int32) (ir : Int32) (gn : Nat) (gb : Nat → Int32) (gp : Nat → Int32) (b : Int32) (q : Int32) (hg : gn < 8) : MWv l yX0_addGrown wsX0_addGrown ({ frames := 0, cells := 0, slots := 0, locals := 0 } : Room) D (gTy K) [.ref r0, .int b, .int q] [(r0, .inr (0, [.ref r1, .ref r2, .ref r3, .ref r4, .ref r5, .ref r6, .ref r7, .ref r8, .int (nI gn), .int (nI n), .int ip, .int ir])), (r7, .inl (K 0, 8, .inl gb)), (r8, .inl (K 0, 8, .inl gp))] (fun (u : Unit) => [(r0, .inr (0, [.ref r1, .ref r2, .ref r3, .ref r4, .ref r5, .ref r6, .ref r7, .ref r8, .int (nI (gn + 1)), .int (nI n), .int ip, .int ir])), (r7, .inl (K 0, 8, .inl (upd gb gn b))), (r8, .inl (K 0, 8, .inl (upd gp gn q)))]) (fun (u : Unit) => True) 0 0 := by
  refine g_ofW (Qc := fun A => va_Qv _ (gB D (gTy K) A _) A) (cc := cX0_addGrown) (maxL := 3) (ret := none) (own := RX0) (by decide) rfl rfl (Nat.le_of_ble_eq_true rfl) ?_
  intro pp ee s mm below meth cc A hfx hnm hK hP hD hE hS hA ls hl
  obtain ⟨hx, hb, hr, hml, hown, hts, hlk⟩ := hfx
  have hl : lv_has ls 3 [(0, .ref r0), (1, .int b), (2, .int q)] := hl
  have hi0 : ∀ w ∈ u_ws RX0 TX0 12, w ∈ wsX0_addGrown := fun w h => List.mem_cons_of_mem _ (List.mem_append_right _ (h))
  refine lv_aload_n hx hb dX0_addGrown_0 rfl (lv_at hl 0 rfl) ?_
  refine va_get (D := D) (ci := 0) (v := .int (nI gn)) (C := RX0) (T := TX0) (N := 12) hx hb hts hi0 hown hK hP 0 rfl rfl 8 (by decide) (hts (.fieldLink RX0 87 "PairedChannels$Reading" "grown" "I") (List.mem_of_getElem? (i := 1) (by decide +kernel))) (fun _ h9 => h9) rfl dX0_addGrown_1 ?_
  refine lv_aload_n hx hb dX0_addGrown_4 rfl (lv_at hl 0 rfl) ?_
  refine va_get (D := D) (ci := 0) (v := .ref r7) (C := RX0) (T := TX0) (N := 12) hx hb hts hi0 hown hK hP 0 rfl rfl 6 (by decide) (hts (.fieldLink RX0 31 "PairedChannels$Reading" "grownBits" "[I") (List.mem_of_getElem? (i := 2) (by decide +kernel))) (fun _ h9 => h9) rfl dX0_addGrown_5 ?_
  refine va_alen (v := 8) hx hb hK hP 1 0 rfl rfl rfl dX0_addGrown_8 ?_
  refine lv_icmp_ge (tgt := 42) hx hb dX0_addGrown_9 (by decide) (fun c1 => ?_) (fun c1 => ?_)
  · skip
    have c1 : 8 ≤ gn := (nI_leI (a := 8) (b := gn) (by omega) (by omega)).mp c1
    omega
  · skip
    have c1 : ¬ 8 ≤ gn := fun h9 => c1 ((nI_leI (a := 8) (b := gn) (by omega) (by omega)).mpr h9)
    refine lv_aload_n hx hb dX0_addGrown_12 rfl (lv_at hl 0 rfl) ?_
    refine va_get (D := D) (ci := 0) (v := .ref r7) (C := RX0) (T := TX0) (N := 12) hx hb hts hi0 hown hK hP 0 rfl rfl 6 (by decide) (hts (.fieldLink RX0 31 "PairedChannels$Reading" "grownBits" "[I") (List.mem_of_getElem? (i := 2) (by decide +kernel))) (fun _ h9 => h9) rfl dX0_addGrown_13 ?_
    refine lv_aload_n hx hb dX0_addGrown_16 rfl (lv_at hl 0 rfl) ?_
    refine va_get (D := D) (ci := 0) (v := .int (nI gn)) (C := RX0) (T := TX0) (N := 12) hx hb hts hi0 hown hK hP 0 rfl rfl 8 (by decide) (hts (.fieldLink RX0 87 "PairedChannels$Reading" "grown" "I") (List.mem_of_getElem? (i := 1) (by decide +kernel))) (fun _ h9 => h9) rfl dX0_addGrown_17 ?_
    refine lv_iload_n hx hb dX0_addGrown_20 rfl (lv_at hl 1 rfl) ?_
    refine wa_iast (x := b) hx hb hK hP hD hS 1 0 rfl rfl (gn) rfl (by omega) (by decide) dX0_addGrown_21 (fun H locs hP hD hS => ?_)
    have hP : va_P D vwCl [(r0, .inr (0, [.ref r1, .ref r2, .ref r3, .ref r4, .ref r5, .ref r6, .ref r7, .ref r8, .int (nI gn), .int (nI n), .int ip, .int ir])), (r7, .inl (K 0, 8, .inl (upd gb gn b))), (r8, .inl (K 0, 8, .inl gp))] _ := hP
    have hD : va_D A [(r0, .inr (0, [.ref r1, .ref r2, .ref r3, .ref r4, .ref r5, .ref r6, .ref r7, .ref r8, .int (nI gn), .int (nI n), .int ip, .int ir])), (r7, .inl (K 0, 8, .inl (upd gb gn b))), (r8, .inl (K 0, 8, .inl gp))] := hD
    refine lv_aload_n hx hb dX0_addGrown_22 rfl (lv_at hl 0 rfl) ?_
    refine va_get (D := D) (ci := 0) (v := .ref r8) (C := RX0) (T := TX0) (N := 12) hx hb hts hi0 hown hK hP 0 rfl rfl 7 (by decide) (hts (.fieldLink RX0 34 "PairedChannels$Reading" "grownPenalties" "[I") (List.mem_of_getElem? (i := 3) (by decide +kernel))) (fun _ h9 => h9) rfl dX0_addGrown_23 ?_
    refine lv_aload_n hx hb dX0_addGrown_26 rfl (lv_at hl 0 rfl) ?_
    refine va_get (D := D) (ci := 0) (v := .int (nI gn)) (C := RX0) (T := TX0) (N := 12) hx hb hts hi0 hown hK hP 0 rfl rfl 8 (by decide) (hts (.fieldLink RX0 87 "PairedChannels$Reading" "grown" "I") (List.mem_of_getElem? (i := 1) (by decide +kernel))) (fun _ h9 => h9) rfl dX0_addGrown_27 ?_
    refine lv_iload_n hx hb dX0_addGrown_30 rfl (lv_at hl 2 rfl) ?_
    refine wa_iast (x := q) hx hb hK hP hD hS 2 0 rfl rfl (gn) rfl (by omega) (by decide) dX0_addGrown_31 (fun H locs hP hD hS => ?_)
    have hP : va_P D vwCl [(r0, .inr (0, [.ref r1, .ref r2, .ref r3, .ref r4, .ref r5, .ref r6, .ref r7, .ref r8, .int (nI gn), .int (nI n), .int ip, .int ir])), (r7, .inl (K 0, 8, .inl (upd gb gn b))), (r8, .inl (K 0, 8, .inl (upd gp gn q)))] _ := hP
    have hD : va_D A [(r0, .inr (0, [.ref r1, .ref r2, .ref r3, .ref r4, .ref r5, .ref r6, .ref r7, .ref r8, .int (nI gn), .int (nI n), .int ip, .int ir])), (r7, .inl (K 0, 8, .inl (upd gb gn b))), (r8, .inl (K 0, 8, .inl (upd gp gn q)))] := hD
    refine lv_aload_n hx hb dX0_addGrown_32 rfl (lv_at hl 0 rfl) ?_
    refine lv_dup hx hb dX0_addGrown_33 rfl ?_
    refine va_get (D := D) (ci := 0) (v := .int (nI gn)) (C := RX0) (T := TX0) (N := 12) hx hb hts hi0 hown hK hP 0 rfl rfl 8 (by decide) (hts (.fieldLink RX0 87 "PairedChannels$Reading" "grown" "I") (List.mem_of_getElem? (i := 1) (by decide +kernel))) (fun _ h9 => h9) rfl dX0_addGrown_34 ?_
    refine lv_iconst (v := 1) hx hb dX0_addGrown_37 (by decide) ?_
    refine lv_iadd hx hb dX0_addGrown_38 ?_
    refine lv_eqi (nI (gn + 1)) (nI_add gn 1) ?_
    refine va_put (D := D) (ci := 0) (v := .int (nI (gn + 1))) (ty := .int) (C := RX0) (T := TX0) (N := 12) hx hb hts hi0 tyX0 tyX0_ok nmX0 hown hK hP hD hS 0 rfl rfl 8 (by decide) (hts (.fieldLink RX0 87 "PairedChannels$Reading" "grown" "I") (List.mem_of_getElem? (i := 1) (by decide +kernel))) (fun _ h9 => h9) rfl (by decide +kernel) (rfl) (rfl) (Nat.le_of_ble_eq_true rfl) dX0_addGrown_39 (fun H locs hP hD hS => ?_)
    have hP : va_P D vwCl [(r0, .inr (0, [.ref r1, .ref r2, .ref r3, .ref r4, .ref r5, .ref r6, .ref r7, .ref r8, .int (nI (gn + 1)), .int (nI n), .int ip, .int ir])), (r7, .inl (K 0, 8, .inl (upd gb gn b))), (r8, .inl (K 0, 8, .inl (upd gp gn q)))] _ := hP
    have hD : va_D A [(r0, .inr (0, [.ref r1, .ref r2, .ref r3, .ref r4, .ref r5, .ref r6, .ref r7, .ref r8, .int (nI (gn + 1)), .int (nI n), .int ip, .int ir])), (r7, .inl (K 0, 8, .inl (upd gb gn b))), (r8, .inl (K 0, 8, .inl (upd gp gn q)))] := hD
    exact gW_vret () hx hb hr hlk hK hP hD hS (trivial) dX0_addGrown_42

set_option maxHeartbeats 4000000 in
set_option maxRecDepth 100000 in
theorem c_X0_rankOfGrown (l : Launch) (D : va_G) (K : Nat → ClassId) (r0 : Nat) (r1 : Nat) (r2 : Nat) (r3 : Nat) (r4 : Nat) (r5 : Nat) (r6 : Nat) (r7 : Nat) (r8 : Nat) (n : Nat) (ip : Int32) (ir : Int32) (gn : Nat) (gp : Nat → Int32) (i : Nat) (hg : gn ≤ 8) (hi : i < gn) (hbp : ∀ t, t < gn → 0 ≤ (gp t).toInt ∧ (gp t).toInt ≤ 100000) : MRi l yX0_rankOfGrown wsX0_rankOfGrown ({ frames := 0, cells := 0, slots := 0, locals := 0 } : Room) D (gTy K) [.ref r0, .int (nI i)] [(r0, .inr (0, [.ref r1, .ref r2, .ref r3, .ref r4, .ref r5, .ref r6, .ref r7, .ref r8, .int (nI gn), .int (nI n), .int ip, .int ir])), (r8, .inl (K 0, 8, .inl gp))] (fun r => r = nI (rkF gp i gn)) := by
  refine g_ofR (cc := cX0_rankOfGrown) (maxL := 5) (ret := (some .int)) (own := RX0) (by decide) rfl rfl (Nat.le_of_ble_eq_true rfl) ?_
  intro pp ee s mm below meth cc hfx hK hP hE hS ls hl
  obtain ⟨hx, hb, hr, hml, hown, hts, hlk⟩ := hfx
  have hl : lv_has ls 5 [(0, .ref r0), (1, .int (nI i))] := hl
  have hi0 : ∀ w ∈ u_ws RX0 TX0 12, w ∈ wsX0_rankOfGrown := fun w h => List.mem_cons_of_mem _ (List.mem_append_right _ (h))
  refine lv_iconst (v := 0) hx hb dX0_rankOfGrown_0 (by decide) ?_
  refine lv_istore_n (lv' := [(2, .int 0), (0, .ref r0), (1, .int (nI i))]) hx hb dX0_rankOfGrown_1 rfl hl (by decide) rfl (fun ls hl => ?_)
  refine lv_iconst (v := 0) hx hb dX0_rankOfGrown_2 (by decide) ?_
  refine lv_istore_n (lv' := [(3, .int 0), (2, .int 0), (0, .ref r0), (1, .int (nI i))]) hx hb dX0_rankOfGrown_3 rfl hl (by decide) rfl (fun ls hl => ?_)
  refine g_loopW (st := []) (N := gn) (fun t H locs ls => va_P D vwCl [(r0, .inr (0, [.ref r1, .ref r2, .ref r3, .ref r4, .ref r5, .ref r6, .ref r7, .ref r8, .int (nI gn), .int (nI n), .int ip, .int ir])), (r8, .inl (K 0, 8, .inl gp))] H ∧ va_S gNo s.heap H locs ∧ lv_has ls 5 [(3, .int (nI t)), (2, .int (nI (rkF gp i t))), (0, .ref r0), (1, .int (nI i))]) 0 (Nat.zero_le _) ?_ ?_ ?_
  · intro H locs ls hI
    obtain ⟨hP, hS, hl⟩ := hI
    refine lv_iload_n hx hb dX0_rankOfGrown_4 rfl (lv_at hl 0 rfl) ?_
    refine lv_aload_n hx hb dX0_rankOfGrown_5 rfl (lv_at hl 2 rfl) ?_
    refine va_get (D := D) (ci := 0) (v := .int (nI gn)) (C := RX0) (T := TX0) (N := 12) hx hb hts hi0 hown hK hP 0 rfl rfl 8 (by decide) (hts (.fieldLink RX0 87 "PairedChannels$Reading" "grown" "I") (List.mem_of_getElem? (i := 1) (by decide +kernel))) (fun _ h9 => h9) rfl dX0_rankOfGrown_6 ?_
    refine lv_icmp_ge (tgt := 51) hx hb dX0_rankOfGrown_9 (by decide) (fun c2 => ?_) (fun c2 => ?_)
    · skip
      have c2 : gn ≤ gn := (nI_leI (a := gn) (b := gn) (by omega) (by omega)).mp c2
      refine lv_iload_n hx hb dX0_rankOfGrown_51 rfl (lv_at hl 1 rfl) ?_
      exact gR_iret (v := nI (rkF gp i gn)) hx hb hr hlk (rfl) hS (rfl) dX0_rankOfGrown_52
    · skip
      have c2 : ¬ gn ≤ gn := fun h9 => c2 ((nI_leI (a := gn) (b := gn) (by omega) (by omega)).mpr h9)
      omega
  · intro t ht ih1 H locs ls hI
    obtain ⟨hP, hS, hl⟩ := hI
    have hmg := mo_gt (Int.le_refl 100000) (hbp i hi) (hbp t ht)
    have hme := mo_eq (x := gp i) (y := gp t)
    have hrl := rkF_le gp i t
    refine lv_iload_n hx hb dX0_rankOfGrown_4 rfl (lv_at hl 0 rfl) ?_
    refine lv_aload_n hx hb dX0_rankOfGrown_5 rfl (lv_at hl 2 rfl) ?_
    refine va_get (D := D) (ci := 0) (v := .int (nI gn)) (C := RX0) (T := TX0) (N := 12) hx hb hts hi0 hown hK hP 0 rfl rfl 8 (by decide) (hts (.fieldLink RX0 87 "PairedChannels$Reading" "grown" "I") (List.mem_of_getElem? (i := 1) (by decide +kernel))) (fun _ h9 => h9) rfl dX0_rankOfGrown_6 ?_
    refine lv_icmp_ge (tgt := 51) hx hb dX0_rankOfGrown_9 (by decide) (fun c3 => ?_) (fun c3 => ?_)
    · skip
      have c3 : gn ≤ t := (nI_leI (a := gn) (b := t) (by omega) (by omega)).mp c3
      omega
    · skip
      have c3 : ¬ gn ≤ t := fun h9 => c3 ((nI_leI (a := gn) (b := t) (by omega) (by omega)).mpr h9)
      refine lv_aload_n hx hb dX0_rankOfGrown_12 rfl (lv_at hl 2 rfl) ?_
      refine va_get (D := D) (ci := 0) (v := .ref r8) (C := RX0) (T := TX0) (N := 12) hx hb hts hi0 hown hK hP 0 rfl rfl 7 (by decide) (hts (.fieldLink RX0 34 "PairedChannels$Reading" "grownPenalties" "[I") (List.mem_of_getElem? (i := 2) (by decide +kernel))) (fun _ h9 => h9) rfl dX0_rankOfGrown_13 ?_
      refine lv_iload_n hx hb dX0_rankOfGrown_16 rfl (lv_at hl 3 rfl) ?_
      refine wa_iald hx hb hK hP 1 0 rfl rfl (i) rfl (by omega) (by decide) dX0_rankOfGrown_17 ?_
      refine lv_aload_n hx hb dX0_rankOfGrown_18 rfl (lv_at hl 2 rfl) ?_
      refine va_get (D := D) (ci := 0) (v := .ref r8) (C := RX0) (T := TX0) (N := 12) hx hb hts hi0 hown hK hP 0 rfl rfl 7 (by decide) (hts (.fieldLink RX0 34 "PairedChannels$Reading" "grownPenalties" "[I") (List.mem_of_getElem? (i := 2) (by decide +kernel))) (fun _ h9 => h9) rfl dX0_rankOfGrown_19 ?_
      refine lv_iload_n hx hb dX0_rankOfGrown_22 rfl (lv_at hl 0 rfl) ?_
      refine wa_iald hx hb hK hP 1 0 rfl rfl (t) rfl (by omega) (by decide) dX0_rankOfGrown_23 ?_
      refine lv_isub hx hb dX0_rankOfGrown_24 ?_
      refine lv_istore (lv' := [(4, .int (gp i - gp t)), (3, .int (nI t)), (2, .int (nI (rkF gp i t))), (0, .ref r0), (1, .int (nI i))]) hx hb dX0_rankOfGrown_25 hl (by decide) rfl (fun ls hl => ?_)
      refine lv_iload hx hb dX0_rankOfGrown_27 (lv_at hl 0 rfl) ?_
      refine lv_if_gt (tgt := 42) hx hb dX0_rankOfGrown_29 (by decide) (fun c29 => ?_) (fun c29 => ?_)
      · skip
        refine lv_iinc (v := nI (rkF gp i t + 1)) (lv' := [(2, .int (nI (rkF gp i t + 1))), (4, .int (gp i - gp t)), (3, .int (nI t)), (0, .ref r0), (1, .int (nI i))]) hx hb dX0_rankOfGrown_42 hl (k := 2) rfl (nI_add (rkF gp i t) 1) (by decide) rfl (fun ls hl => ?_)
        refine lv_iinc (v := nI (t + 1)) (lv' := [(3, .int (nI (t + 1))), (2, .int (nI (rkF gp i t + 1))), (4, .int (gp i - gp t)), (0, .ref r0), (1, .int (nI i))]) hx hb dX0_rankOfGrown_45 hl (k := 2) rfl (nI_add t 1) (by decide) rfl (fun ls hl => ?_)
        refine lv_goto (tgt := 4) hx hb dX0_rankOfGrown_48 (by decide) ?_
        have e9 : (nI (rkF gp i t + 1)) = (nI (rkF gp i (t + 1))) := congrArg nI (by show _ = rkF gp i t + (if btr gp t i then 1 else 0); first | rw [if_pos (Or.inl (hmg.mp c29))] | ((first | exact (g_in (fun h => h.elim (fun h => c29 (hmg.mpr h)) (fun h => c34 (hme.mpr h.1.symm))) rfl) | exact (g_tn (fun h => h.elim (fun h => c29 (hmg.mpr h)) (fun h => c34 (hme.mpr h.1.symm))) rfl) | exact (g_an (fun h => h.elim (fun h => c29 (hmg.mpr h)) (fun h => c34 (hme.mpr h.1.symm))) rfl))) | (first | exact (g_ip (Or.inr ⟨(hme.mp c34).symm, by omega⟩) rfl) | exact (g_tp (Or.inr ⟨(hme.mp c34).symm, by omega⟩) rfl) | exact (g_ap (Or.inr ⟨(hme.mp c34).symm, by omega⟩) rfl)) | ((first | exact (g_in (fun h => h.elim (fun h => c29 (hmg.mpr h)) (fun h => absurd h.2 (by omega))) rfl) | exact (g_tn (fun h => h.elim (fun h => c29 (hmg.mpr h)) (fun h => absurd h.2 (by omega))) rfl) | exact (g_an (fun h => h.elim (fun h => c29 (hmg.mpr h)) (fun h => absurd h.2 (by omega))) rfl))))
        rw [e9] at hl
        exact ih1 H locs ls ⟨hP, hS, lv_sub hl [0, 1, 3, 4] rfl⟩
      · skip
        refine lv_iload hx hb dX0_rankOfGrown_32 (lv_at hl 0 rfl) ?_
        refine lv_if_ne (tgt := 45) hx hb dX0_rankOfGrown_34 (by decide) (fun c34 => ?_) (fun c34 => ?_)
        · skip
          refine lv_iinc (v := nI (t + 1)) (lv' := [(3, .int (nI (t + 1))), (4, .int (gp i - gp t)), (2, .int (nI (rkF gp i t))), (0, .ref r0), (1, .int (nI i))]) hx hb dX0_rankOfGrown_45 hl (k := 1) rfl (nI_add t 1) (by decide) rfl (fun ls hl => ?_)
          refine lv_goto (tgt := 4) hx hb dX0_rankOfGrown_48 (by decide) ?_
          have e9 : (nI (rkF gp i t)) = (nI (rkF gp i (t + 1))) := congrArg nI (by show _ = rkF gp i t + (if btr gp t i then 1 else 0); first | rw [if_pos (Or.inl (hmg.mp c29))] | ((first | exact (g_in (fun h => h.elim (fun h => c29 (hmg.mpr h)) (fun h => c34 (hme.mpr h.1.symm))) rfl) | exact (g_tn (fun h => h.elim (fun h => c29 (hmg.mpr h)) (fun h => c34 (hme.mpr h.1.symm))) rfl) | exact (g_an (fun h => h.elim (fun h => c29 (hmg.mpr h)) (fun h => c34 (hme.mpr h.1.symm))) rfl))) | (first | exact (g_ip (Or.inr ⟨(hme.mp c34).symm, by omega⟩) rfl) | exact (g_tp (Or.inr ⟨(hme.mp c34).symm, by omega⟩) rfl) | exact (g_ap (Or.inr ⟨(hme.mp c34).symm, by omega⟩) rfl)) | ((first | exact (g_in (fun h => h.elim (fun h => c29 (hmg.mpr h)) (fun h => absurd h.2 (by omega))) rfl) | exact (g_tn (fun h => h.elim (fun h => c29 (hmg.mpr h)) (fun h => absurd h.2 (by omega))) rfl) | exact (g_an (fun h => h.elim (fun h => c29 (hmg.mpr h)) (fun h => absurd h.2 (by omega))) rfl))))
          rw [e9] at hl
          exact ih1 H locs ls ⟨hP, hS, lv_sub hl [0, 2, 3, 4] rfl⟩
        · skip
          refine lv_iload_n hx hb dX0_rankOfGrown_37 rfl (lv_at hl 1 rfl) ?_
          refine lv_iload_n hx hb dX0_rankOfGrown_38 rfl (lv_at hl 4 rfl) ?_
          refine lv_icmp_ge (tgt := 45) hx hb dX0_rankOfGrown_39 (by decide) (fun c39 => ?_) (fun c39 => ?_)
          · skip
            have c39 : i ≤ t := (nI_leI (a := i) (b := t) (by omega) (by omega)).mp c39
            refine lv_iinc (v := nI (t + 1)) (lv' := [(3, .int (nI (t + 1))), (4, .int (gp i - gp t)), (2, .int (nI (rkF gp i t))), (0, .ref r0), (1, .int (nI i))]) hx hb dX0_rankOfGrown_45 hl (k := 1) rfl (nI_add t 1) (by decide) rfl (fun ls hl => ?_)
            refine lv_goto (tgt := 4) hx hb dX0_rankOfGrown_48 (by decide) ?_
            have e9 : (nI (rkF gp i t)) = (nI (rkF gp i (t + 1))) := congrArg nI (by show _ = rkF gp i t + (if btr gp t i then 1 else 0); first | rw [if_pos (Or.inl (hmg.mp c29))] | ((first | exact (g_in (fun h => h.elim (fun h => c29 (hmg.mpr h)) (fun h => c34 (hme.mpr h.1.symm))) rfl) | exact (g_tn (fun h => h.elim (fun h => c29 (hmg.mpr h)) (fun h => c34 (hme.mpr h.1.symm))) rfl) | exact (g_an (fun h => h.elim (fun h => c29 (hmg.mpr h)) (fun h => c34 (hme.mpr h.1.symm))) rfl))) | (first | exact (g_ip (Or.inr ⟨(hme.mp c34).symm, by omega⟩) rfl) | exact (g_tp (Or.inr ⟨(hme.mp c34).symm, by omega⟩) rfl) | exact (g_ap (Or.inr ⟨(hme.mp c34).symm, by omega⟩) rfl)) | ((first | exact (g_in (fun h => h.elim (fun h => c29 (hmg.mpr h)) (fun h => absurd h.2 (by omega))) rfl) | exact (g_tn (fun h => h.elim (fun h => c29 (hmg.mpr h)) (fun h => absurd h.2 (by omega))) rfl) | exact (g_an (fun h => h.elim (fun h => c29 (hmg.mpr h)) (fun h => absurd h.2 (by omega))) rfl))))
            rw [e9] at hl
            exact ih1 H locs ls ⟨hP, hS, lv_sub hl [0, 2, 3, 4] rfl⟩
          · skip
            have c39 : ¬ i ≤ t := fun h9 => c39 ((nI_leI (a := i) (b := t) (by omega) (by omega)).mpr h9)
            refine lv_iinc (v := nI (rkF gp i t + 1)) (lv' := [(2, .int (nI (rkF gp i t + 1))), (4, .int (gp i - gp t)), (3, .int (nI t)), (0, .ref r0), (1, .int (nI i))]) hx hb dX0_rankOfGrown_42 hl (k := 2) rfl (nI_add (rkF gp i t) 1) (by decide) rfl (fun ls hl => ?_)
            refine lv_iinc (v := nI (t + 1)) (lv' := [(3, .int (nI (t + 1))), (2, .int (nI (rkF gp i t + 1))), (4, .int (gp i - gp t)), (0, .ref r0), (1, .int (nI i))]) hx hb dX0_rankOfGrown_45 hl (k := 2) rfl (nI_add t 1) (by decide) rfl (fun ls hl => ?_)
            refine lv_goto (tgt := 4) hx hb dX0_rankOfGrown_48 (by decide) ?_
            have e9 : (nI (rkF gp i t + 1)) = (nI (rkF gp i (t + 1))) := congrArg nI (by show _ = rkF gp i t + (if btr gp t i then 1 else 0); first | rw [if_pos (Or.inl (hmg.mp c29))] | ((first | exact (g_in (fun h => h.elim (fun h => c29 (hmg.mpr h)) (fun h => c34 (hme.mpr h.1.symm))) rfl) | exact (g_tn (fun h => h.elim (fun h => c29 (hmg.mpr h)) (fun h => c34 (hme.mpr h.1.symm))) rfl) | exact (g_an (fun h => h.elim (fun h => c29 (hmg.mpr h)) (fun h => c34 (hme.mpr h.1.symm))) rfl))) | (first | exact (g_ip (Or.inr ⟨(hme.mp c34).symm, by omega⟩) rfl) | exact (g_tp (Or.inr ⟨(hme.mp c34).symm, by omega⟩) rfl) | exact (g_ap (Or.inr ⟨(hme.mp c34).symm, by omega⟩) rfl)) | ((first | exact (g_in (fun h => h.elim (fun h => c29 (hmg.mpr h)) (fun h => absurd h.2 (by omega))) rfl) | exact (g_tn (fun h => h.elim (fun h => c29 (hmg.mpr h)) (fun h => absurd h.2 (by omega))) rfl) | exact (g_an (fun h => h.elim (fun h => c29 (hmg.mpr h)) (fun h => absurd h.2 (by omega))) rfl))))
            rw [e9] at hl
            exact ih1 H locs ls ⟨hP, hS, lv_sub hl [0, 1, 3, 4] rfl⟩
  · exact ⟨hP, hS, lv_sub hl [0, 1, 2, 3] rfl⟩
