set_option maxHeartbeats 4000000 in
set_option maxRecDepth 100000 in
theorem c_X0_keepLeast (l : Launch) (D : va_G) (K : Nat → ClassId) (r0 : Nat) (r1 : Nat) (r2 : Nat) (r3 : Nat) (r4 : Nat) (r5 : Nat) (r6 : Nat) (r7 : Nat) (r8 : Nat) (n : Nat) (ip : Int32) (ir : Int32) (L : PL) (lim : Nat) (fb : Nat → Int32) (fp : Nat → Int32) (gb : Nat → Int32) (gp : Nat → Int32) (hL : hol L gb gp) (hl8 : L.length ≤ 8) (hlim : lim ≤ 4) (hbp : okP 100000 L) : MWv l yX0_keepLeast wsX0_keepLeast ({ frames := 1, cells := 0, slots := 0, locals := 24 } : Room) D (gTy K) [.ref r0, .int (nI lim)] [(r0, .inr (0, [.ref r1, .ref r2, .ref r3, .ref r4, .ref r5, .ref r6, .ref r7, .ref r8, .int (nI L.length), .int (nI n), .int ip, .int ir])), (r3, .inl (K 0, 4, .inl fb)), (r4, .inl (K 0, 4, .inl fp)), (r7, .inl (K 0, 8, .inl gb)), (r8, .inl (K 0, 8, .inl gp))] (fun (u : (Nat → Int32) × (Nat → Int32)) => [(r0, .inr (0, [.ref r1, .ref r2, .ref r3, .ref r4, .ref r5, .ref r6, .ref r7, .ref r8, .int (nI L.length), .int (nI n), .int (nI ((keepL lim L).length)), .int ir])), (r3, .inl (K 0, 4, .inl u.1)), (r4, .inl (K 0, 4, .inl u.2)), (r7, .inl (K 0, 8, .inl gb)), (r8, .inl (K 0, 8, .inl gp))]) (fun (u : (Nat → Int32) × (Nat → Int32)) => hol (keepL lim L) u.1 u.2) 0 0 := by
  refine g_ofW (Qc := fun A => va_Qv _ (gB D (gTy K) A _) A) (cc := cX0_keepLeast) (maxL := 3) (ret := none) (own := RX0) (by decide) rfl rfl (Nat.le_of_ble_eq_true rfl) ?_
  intro pp ee s mm below meth cc A hfx hnm hK hP hD hE hS hA ls hl
  obtain ⟨hx, hb, hr, hml, hown, hts, hlk⟩ := hfx
  have hl : lv_has ls 3 [(0, .ref r0), (1, .int (nI lim))] := hl
  have hi0 : ∀ w ∈ u_ws RX0 TX0 12, w ∈ wsX0_keepLeast := fun w h => List.mem_cons_of_mem _ (List.mem_append_right _ (h))
  have hbq : ∀ t, t < L.length → 0 ≤ (gp t).toInt ∧ (gp t).toInt ≤ 100000 := fun t ht => by rw [(hL t ht).2]; exact hbp t ht
  refine lv_aload_n hx hb dX0_keepLeast_0 rfl (lv_at hl 0 rfl) ?_
  refine lv_iconst (v := 0) hx hb dX0_keepLeast_1 (by decide) ?_
  refine va_put (D := D) (ci := 0) (v := .int 0) (ty := .int) (C := RX0) (T := TX0) (N := 12) hx hb hts hi0 tyX0 tyX0_ok nmX0 hown hK hP hD hS 0 rfl rfl 10 (by decide) (hts (.fieldLink RX0 47 "PairedChannels$Reading" "paths" "I") (List.mem_of_getElem? (i := 1) (by decide +kernel))) (fun _ h9 => h9) rfl (by decide +kernel) (rfl) (rfl) (Nat.le_of_ble_eq_true rfl) dX0_keepLeast_2 (fun H locs hP hD hS => ?_)
  have hP : va_P D vwCl [(r0, .inr (0, [.ref r1, .ref r2, .ref r3, .ref r4, .ref r5, .ref r6, .ref r7, .ref r8, .int (nI L.length), .int (nI n), .int 0, .int ir])), (r3, .inl (K 0, 4, .inl fb)), (r4, .inl (K 0, 4, .inl fp)), (r7, .inl (K 0, 8, .inl gb)), (r8, .inl (K 0, 8, .inl gp))] _ := hP
  have hD : va_D A [(r0, .inr (0, [.ref r1, .ref r2, .ref r3, .ref r4, .ref r5, .ref r6, .ref r7, .ref r8, .int (nI L.length), .int (nI n), .int 0, .int ir])), (r3, .inl (K 0, 4, .inl fb)), (r4, .inl (K 0, 4, .inl fp)), (r7, .inl (K 0, 8, .inl gb)), (r8, .inl (K 0, 8, .inl gp))] := hD
  refine lv_iconst (v := 0) hx hb dX0_keepLeast_5 (by decide) ?_
  refine lv_istore_n (lv' := [(2, .int 0), (0, .ref r0), (1, .int (nI lim))]) hx hb dX0_keepLeast_6 rfl hl (by decide) rfl (fun ls hl => ?_)
  have e1 : 0 = (nI ((kpL L lim 0).length)) := rfl
  rw [e1] at hP hD
  have hP : va_P D vwCl [(r0, .inr (0, [.ref r1, .ref r2, .ref r3, .ref r4, .ref r5, .ref r6, .ref r7, .ref r8, .int (nI L.length), .int (nI n), .int (nI ((kpL L lim 0).length)), .int ir])), (r3, .inl (K 0, 4, .inl fb)), (r4, .inl (K 0, 4, .inl fp)), (r7, .inl (K 0, 8, .inl gb)), (r8, .inl (K 0, 8, .inl gp))] _ := hP
  have hD : va_D A [(r0, .inr (0, [.ref r1, .ref r2, .ref r3, .ref r4, .ref r5, .ref r6, .ref r7, .ref r8, .int (nI L.length), .int (nI n), .int (nI ((kpL L lim 0).length)), .int ir])), (r3, .inl (K 0, 4, .inl fb)), (r4, .inl (K 0, 4, .inl fp)), (r7, .inl (K 0, 8, .inl gb)), (r8, .inl (K 0, 8, .inl gp))] := hD
  refine g_loopW (st := []) (N := L.length) (fun t H locs ls => ∃ fb : Nat → Int32, ∃ fp : Nat → Int32, (hol (kpL L lim t) fb fp) ∧ va_P D vwCl [(r0, .inr (0, [.ref r1, .ref r2, .ref r3, .ref r4, .ref r5, .ref r6, .ref r7, .ref r8, .int (nI L.length), .int (nI n), .int (nI ((kpL L lim t).length)), .int ir])), (r3, .inl (K 0, 4, .inl fb)), (r4, .inl (K 0, 4, .inl fp)), (r7, .inl (K 0, 8, .inl gb)), (r8, .inl (K 0, 8, .inl gp))] H ∧ va_D A [(r0, .inr (0, [.ref r1, .ref r2, .ref r3, .ref r4, .ref r5, .ref r6, .ref r7, .ref r8, .int (nI L.length), .int (nI n), .int (nI ((kpL L lim t).length)), .int ir])), (r3, .inl (K 0, 4, .inl fb)), (r4, .inl (K 0, 4, .inl fp)), (r7, .inl (K 0, 8, .inl gb)), (r8, .inl (K 0, 8, .inl gp))] ∧ va_S A s.heap H locs ∧ lv_has ls 3 [(2, .int (nI t)), (0, .ref r0), (1, .int (nI lim))]) 0 (Nat.zero_le _) ?_ ?_ ?_
  · intro H locs ls hI
    obtain ⟨fb, fp, hh, hP, hD, hS, hl⟩ := hI
    refine lv_iload_n hx hb dX0_keepLeast_7 rfl (lv_at hl 0 rfl) ?_
    refine lv_aload_n hx hb dX0_keepLeast_8 rfl (lv_at hl 1 rfl) ?_
    refine va_get (D := D) (ci := 0) (v := .int (nI L.length)) (C := RX0) (T := TX0) (N := 12) hx hb hts hi0 hown hK hP 0 rfl rfl 8 (by decide) (hts (.fieldLink RX0 87 "PairedChannels$Reading" "grown" "I") (List.mem_of_getElem? (i := 2) (by decide +kernel))) (fun _ h9 => h9) rfl dX0_keepLeast_9 ?_
    refine lv_icmp_ge (tgt := 78) hx hb dX0_keepLeast_12 (by decide) (fun c3 => ?_) (fun c3 => ?_)
    · skip
      have c3 : L.length ≤ L.length := (nI_leI (a := L.length) (b := L.length) (by omega) (by omega)).mp c3
      exact gW_vret (fb, fp) hx hb hr hlk hK hP hD hS (hh) dX0_keepLeast_78
    · skip
      have c3 : ¬ L.length ≤ L.length := fun h9 => c3 ((nI_leI (a := L.length) (b := L.length) (by omega) (by omega)).mpr h9)
      omega
  · intro t ht ih2 H locs ls hI
    obtain ⟨fb, fp, hh, hP, hD, hS, hl⟩ := hI
    have hrl := rk_lt ht
    refine lv_iload_n hx hb dX0_keepLeast_7 rfl (lv_at hl 0 rfl) ?_
    refine lv_aload_n hx hb dX0_keepLeast_8 rfl (lv_at hl 1 rfl) ?_
    refine va_get (D := D) (ci := 0) (v := .int (nI L.length)) (C := RX0) (T := TX0) (N := 12) hx hb hts hi0 hown hK hP 0 rfl rfl 8 (by decide) (hts (.fieldLink RX0 87 "PairedChannels$Reading" "grown" "I") (List.mem_of_getElem? (i := 2) (by decide +kernel))) (fun _ h9 => h9) rfl dX0_keepLeast_9 ?_
    refine lv_icmp_ge (tgt := 78) hx hb dX0_keepLeast_12 (by decide) (fun c4 => ?_) (fun c4 => ?_)
    · skip
      have c4 : L.length ≤ t := (nI_leI (a := L.length) (b := t) (by omega) (by omega)).mp c4
      omega
    · skip
      have c4 : ¬ L.length ≤ t := fun h9 => c4 ((nI_leI (a := L.length) (b := t) (by omega) (by omega)).mpr h9)
      refine lv_aload_n hx hb dX0_keepLeast_15 rfl (lv_at hl 1 rfl) ?_
      refine lv_iload_n hx hb dX0_keepLeast_16 rfl (lv_at hl 0 rfl) ?_
      refine gR_i (va_runV (As := [.int (nI t)]) (rest := []) ⟨hx, hb, hml, hown, hts⟩ (c_X0_rankOfGrown l D K r0 r1 r2 r3 r4 r5 r6 r7 r8 n (nI ((kpL L lim t).length)) ir L.length gp t (by first | assumption | omega) (by first | assumption | omega) (hbq)) (cwV 1 hts gX0_keepLeast_X0_rankOfGrown rfl rfl rfl (by decide +kernel) ⟨Nat.le_of_ble_eq_true rfl, Nat.le_of_ble_eq_true rfl⟩) (gR_preV hE hS hK hP [0, 4] rfl 0 rfl rfl rfl) rfl rfl hl.1 rfl (lv_room (Nat.le_of_ble_eq_true rfl)) dX0_keepLeast_17 ⟨Nat.le_of_ble_eq_true rfl, Nat.le_of_ble_eq_true rfl⟩) hS hP (fun rv6 H locs h5 hP hS => ?_)
      have h5 : rv6 = nI (rkF gp t L.length) := h5
      subst h5
      refine lv_eqi (nI (rk L t)) (congrArg nI (hol_pen hL ht)) ?_
      refine lv_iload_n hx hb dX0_keepLeast_20 rfl (lv_at hl 2 rfl) ?_
      refine lv_icmp_ge (tgt := 72) hx hb dX0_keepLeast_21 (by decide) (fun c21 => ?_) (fun c21 => ?_)
      · skip
        have c21 : lim ≤ rk L t := (nI_leI (a := lim) (b := rk L t) (by omega) (by omega)).mp c21
        refine lv_iinc (v := nI (t + 1)) (lv' := [(2, .int (nI (t + 1))), (0, .ref r0), (1, .int (nI lim))]) hx hb dX0_keepLeast_72 hl (k := 0) rfl (nI_add t 1) (by decide) rfl (fun ls hl => ?_)
        refine lv_goto (tgt := 7) hx hb dX0_keepLeast_75 (by decide) ?_
        have e9 : (nI ((kpL L lim t).length)) = (nI ((kpL L lim (t + 1)).length)) := congrArg nI (by first | rw [kpL_f (Nat.not_lt.mpr c21)] | rw [kpL_t (Nat.not_le.mp c21), len1])
        rw [e9] at hP hD
        exact ih2 H locs ls ⟨fb, fp, (by first | (rw [kpL_f (Nat.not_lt.mpr c21)]; exact hh) | (rw [kpL_t (Nat.not_le.mp c21), (hL t ht).1, (hL t ht).2]; exact hol_push1 hh _ rfl)), hP, hD, hS, lv_sub hl [0, 1, 2] rfl⟩
      · skip
        have c21 : ¬ lim ≤ rk L t := fun h9 => c21 ((nI_leI (a := lim) (b := rk L t) (by omega) (by omega)).mpr h9)
        have hro := kp_room (P := L) (lim := lim) ht (by omega)
        refine lv_aload_n hx hb dX0_keepLeast_24 rfl (lv_at hl 1 rfl) ?_
        refine va_get (D := D) (ci := 0) (v := .int (nI ((kpL L lim t).length))) (C := RX0) (T := TX0) (N := 12) hx hb hts hi0 hown hK hP 0 rfl rfl 10 (by decide) (hts (.fieldLink RX0 47 "PairedChannels$Reading" "paths" "I") (List.mem_of_getElem? (i := 1) (by decide +kernel))) (fun _ h9 => h9) rfl dX0_keepLeast_25 ?_
        refine lv_iconst (v := 4) hx hb dX0_keepLeast_28 (by decide) ?_
        refine lv_icmp_ge (tgt := 72) hx hb dX0_keepLeast_29 (by decide) (fun c8 => ?_) (fun c8 => ?_)
        · skip
          have c8 : 4 ≤ (kpL L lim t).length := (nI_leI (a := 4) (b := (kpL L lim t).length) (by omega) (by omega)).mp c8
          omega
        · skip
          have c8 : ¬ 4 ≤ (kpL L lim t).length := fun h9 => c8 ((nI_leI (a := 4) (b := (kpL L lim t).length) (by omega) (by omega)).mpr h9)
          refine lv_aload_n hx hb dX0_keepLeast_32 rfl (lv_at hl 1 rfl) ?_
          refine va_get (D := D) (ci := 0) (v := .ref r3) (C := RX0) (T := TX0) (N := 12) hx hb hts hi0 hown hK hP 0 rfl rfl 2 (by decide) (hts (.fieldLink RX0 18 "PairedChannels$Reading" "bits" "[I") (List.mem_of_getElem? (i := 3) (by decide +kernel))) (fun _ h9 => h9) rfl dX0_keepLeast_33 ?_
          refine lv_aload_n hx hb dX0_keepLeast_36 rfl (lv_at hl 1 rfl) ?_
          refine va_get (D := D) (ci := 0) (v := .int (nI ((kpL L lim t).length))) (C := RX0) (T := TX0) (N := 12) hx hb hts hi0 hown hK hP 0 rfl rfl 10 (by decide) (hts (.fieldLink RX0 47 "PairedChannels$Reading" "paths" "I") (List.mem_of_getElem? (i := 1) (by decide +kernel))) (fun _ h9 => h9) rfl dX0_keepLeast_37 ?_
          refine lv_aload_n hx hb dX0_keepLeast_40 rfl (lv_at hl 1 rfl) ?_
          refine va_get (D := D) (ci := 0) (v := .ref r7) (C := RX0) (T := TX0) (N := 12) hx hb hts hi0 hown hK hP 0 rfl rfl 6 (by decide) (hts (.fieldLink RX0 31 "PairedChannels$Reading" "grownBits" "[I") (List.mem_of_getElem? (i := 4) (by decide +kernel))) (fun _ h9 => h9) rfl dX0_keepLeast_41 ?_
          refine lv_iload_n hx hb dX0_keepLeast_44 rfl (lv_at hl 0 rfl) ?_
          refine wa_iald hx hb hK hP 3 0 rfl rfl (t) rfl (by omega) (by decide) dX0_keepLeast_45 ?_
          refine wa_iast (x := gb t) hx hb hK hP hD hS 1 0 rfl rfl ((kpL L lim t).length) rfl (by omega) (by decide) dX0_keepLeast_46 (fun H locs hP hD hS => ?_)
          have hP : va_P D vwCl [(r0, .inr (0, [.ref r1, .ref r2, .ref r3, .ref r4, .ref r5, .ref r6, .ref r7, .ref r8, .int (nI L.length), .int (nI n), .int (nI ((kpL L lim t).length)), .int ir])), (r3, .inl (K 0, 4, .inl (upd fb ((kpL L lim t).length) (gb t)))), (r4, .inl (K 0, 4, .inl fp)), (r7, .inl (K 0, 8, .inl gb)), (r8, .inl (K 0, 8, .inl gp))] _ := hP
          have hD : va_D A [(r0, .inr (0, [.ref r1, .ref r2, .ref r3, .ref r4, .ref r5, .ref r6, .ref r7, .ref r8, .int (nI L.length), .int (nI n), .int (nI ((kpL L lim t).length)), .int ir])), (r3, .inl (K 0, 4, .inl (upd fb ((kpL L lim t).length) (gb t)))), (r4, .inl (K 0, 4, .inl fp)), (r7, .inl (K 0, 8, .inl gb)), (r8, .inl (K 0, 8, .inl gp))] := hD
          refine lv_aload_n hx hb dX0_keepLeast_47 rfl (lv_at hl 1 rfl) ?_
          refine va_get (D := D) (ci := 0) (v := .ref r4) (C := RX0) (T := TX0) (N := 12) hx hb hts hi0 hown hK hP 0 rfl rfl 3 (by decide) (hts (.fieldLink RX0 21 "PairedChannels$Reading" "penalties" "[I") (List.mem_of_getElem? (i := 5) (by decide +kernel))) (fun _ h9 => h9) rfl dX0_keepLeast_48 ?_
          refine lv_aload_n hx hb dX0_keepLeast_51 rfl (lv_at hl 1 rfl) ?_
          refine va_get (D := D) (ci := 0) (v := .int (nI ((kpL L lim t).length))) (C := RX0) (T := TX0) (N := 12) hx hb hts hi0 hown hK hP 0 rfl rfl 10 (by decide) (hts (.fieldLink RX0 47 "PairedChannels$Reading" "paths" "I") (List.mem_of_getElem? (i := 1) (by decide +kernel))) (fun _ h9 => h9) rfl dX0_keepLeast_52 ?_
          refine lv_aload_n hx hb dX0_keepLeast_55 rfl (lv_at hl 1 rfl) ?_
          refine va_get (D := D) (ci := 0) (v := .ref r8) (C := RX0) (T := TX0) (N := 12) hx hb hts hi0 hown hK hP 0 rfl rfl 7 (by decide) (hts (.fieldLink RX0 34 "PairedChannels$Reading" "grownPenalties" "[I") (List.mem_of_getElem? (i := 6) (by decide +kernel))) (fun _ h9 => h9) rfl dX0_keepLeast_56 ?_
          refine lv_iload_n hx hb dX0_keepLeast_59 rfl (lv_at hl 0 rfl) ?_
          refine wa_iald hx hb hK hP 4 0 rfl rfl (t) rfl (by omega) (by decide) dX0_keepLeast_60 ?_
          refine wa_iast (x := gp t) hx hb hK hP hD hS 2 0 rfl rfl ((kpL L lim t).length) rfl (by omega) (by decide) dX0_keepLeast_61 (fun H locs hP hD hS => ?_)
          have hP : va_P D vwCl [(r0, .inr (0, [.ref r1, .ref r2, .ref r3, .ref r4, .ref r5, .ref r6, .ref r7, .ref r8, .int (nI L.length), .int (nI n), .int (nI ((kpL L lim t).length)), .int ir])), (r3, .inl (K 0, 4, .inl (upd fb ((kpL L lim t).length) (gb t)))), (r4, .inl (K 0, 4, .inl (upd fp ((kpL L lim t).length) (gp t)))), (r7, .inl (K 0, 8, .inl gb)), (r8, .inl (K 0, 8, .inl gp))] _ := hP
          have hD : va_D A [(r0, .inr (0, [.ref r1, .ref r2, .ref r3, .ref r4, .ref r5, .ref r6, .ref r7, .ref r8, .int (nI L.length), .int (nI n), .int (nI ((kpL L lim t).length)), .int ir])), (r3, .inl (K 0, 4, .inl (upd fb ((kpL L lim t).length) (gb t)))), (r4, .inl (K 0, 4, .inl (upd fp ((kpL L lim t).length) (gp t)))), (r7, .inl (K 0, 8, .inl gb)), (r8, .inl (K 0, 8, .inl gp))] := hD
          refine lv_aload_n hx hb dX0_keepLeast_62 rfl (lv_at hl 1 rfl) ?_
          refine lv_dup hx hb dX0_keepLeast_63 rfl ?_
          refine va_get (D := D) (ci := 0) (v := .int (nI ((kpL L lim t).length))) (C := RX0) (T := TX0) (N := 12) hx hb hts hi0 hown hK hP 0 rfl rfl 10 (by decide) (hts (.fieldLink RX0 47 "PairedChannels$Reading" "paths" "I") (List.mem_of_getElem? (i := 1) (by decide +kernel))) (fun _ h9 => h9) rfl dX0_keepLeast_64 ?_
          refine lv_iconst (v := 1) hx hb dX0_keepLeast_67 (by decide) ?_
          refine lv_iadd hx hb dX0_keepLeast_68 ?_
          refine lv_eqi (nI ((kpL L lim t).length + 1)) (nI_add ((kpL L lim t).length) 1) ?_
          refine va_put (D := D) (ci := 0) (v := .int (nI ((kpL L lim t).length + 1))) (ty := .int) (C := RX0) (T := TX0) (N := 12) hx hb hts hi0 tyX0 tyX0_ok nmX0 hown hK hP hD hS 0 rfl rfl 10 (by decide) (hts (.fieldLink RX0 47 "PairedChannels$Reading" "paths" "I") (List.mem_of_getElem? (i := 1) (by decide +kernel))) (fun _ h9 => h9) rfl (by decide +kernel) (rfl) (rfl) (Nat.le_of_ble_eq_true rfl) dX0_keepLeast_69 (fun H locs hP hD hS => ?_)
          have hP : va_P D vwCl [(r0, .inr (0, [.ref r1, .ref r2, .ref r3, .ref r4, .ref r5, .ref r6, .ref r7, .ref r8, .int (nI L.length), .int (nI n), .int (nI ((kpL L lim t).length + 1)), .int ir])), (r3, .inl (K 0, 4, .inl (upd fb ((kpL L lim t).length) (gb t)))), (r4, .inl (K 0, 4, .inl (upd fp ((kpL L lim t).length) (gp t)))), (r7, .inl (K 0, 8, .inl gb)), (r8, .inl (K 0, 8, .inl gp))] _ := hP
          have hD : va_D A [(r0, .inr (0, [.ref r1, .ref r2, .ref r3, .ref r4, .ref r5, .ref r6, .ref r7, .ref r8, .int (nI L.length), .int (nI n), .int (nI ((kpL L lim t).length + 1)), .int ir])), (r3, .inl (K 0, 4, .inl (upd fb ((kpL L lim t).length) (gb t)))), (r4, .inl (K 0, 4, .inl (upd fp ((kpL L lim t).length) (gp t)))), (r7, .inl (K 0, 8, .inl gb)), (r8, .inl (K 0, 8, .inl gp))] := hD
          refine lv_iinc (v := nI (t + 1)) (lv' := [(2, .int (nI (t + 1))), (0, .ref r0), (1, .int (nI lim))]) hx hb dX0_keepLeast_72 hl (k := 0) rfl (nI_add t 1) (by decide) rfl (fun ls hl => ?_)
          refine lv_goto (tgt := 7) hx hb dX0_keepLeast_75 (by decide) ?_
          have e9 : (nI ((kpL L lim t).length + 1)) = (nI ((kpL L lim (t + 1)).length)) := congrArg nI (by first | rw [kpL_f (Nat.not_lt.mpr c21)] | rw [kpL_t (Nat.not_le.mp c21), len1])
          rw [e9] at hP hD
          exact ih2 H locs ls ⟨(upd fb ((kpL L lim t).length) (gb t)), (upd fp ((kpL L lim t).length) (gp t)), (by first | (rw [kpL_f (Nat.not_lt.mpr c21)]; exact hh) | (rw [kpL_t (Nat.not_le.mp c21), (hL t ht).1, (hL t ht).2]; exact hol_push1 hh _ rfl)), hP, hD, hS, lv_sub hl [0, 1, 2] rfl⟩
  · exact ⟨fb, fp, (hol_nil _ _), hP, hD, hS, lv_sub hl [0, 1, 2] rfl⟩

set_option maxHeartbeats 4000000 in
set_option maxRecDepth 100000 in
theorem c_X0_growPaths (l : Launch) (D : va_G) (K : Nat → ClassId) (r0 : Nat) (r1 : Nat) (r2 : Nat) (r3 : Nat) (r4 : Nat) (r5 : Nat) (r6 : Nat) (r7 : Nat) (r8 : Nat) (n : Nat) (ig : Int32) (ir : Int32) (P : PL) (pl : Nat) (o : Bool) (fr : Nat → Int32) (fw : Nat → Int32) (fb : Nat → Int32) (fp : Nat → Int32) (gb : Nat → Int32) (gp : Nat → Int32) (hn : okN n) (hp : pl < n) (hP4 : P.length ≤ 4) (hhP : hol P fb fp) : MWv l yX0_growPaths wsX0_growPaths ({ frames := 2, cells := 0, slots := 0, locals := 65 } : Room) D (gTy K) [.ref r0, .int (nI pl), .int (if o = true then 1 else 0)] [(r0, .inr (0, [.ref r1, .ref r2, .ref r3, .ref r4, .ref r5, .ref r6, .ref r7, .ref r8, .int ig, .int (nI n), .int (nI P.length), .int ir])), (r1, .inl (K 0, 16, .inl fr)), (r2, .inl (K 0, 16, .inl fw)), (r3, .inl (K 0, 4, .inl fb)), (r4, .inl (K 0, 4, .inl fp)), (r7, .inl (K 0, 8, .inl gb)), (r8, .inl (K 0, 8, .inl gp))] (fun (u : (Nat → Int32) × (Nat → Int32) × (Nat → Int32)) => [(r0, .inr (0, [.ref r1, .ref r2, .ref r3, .ref r4, .ref r5, .ref r6, .ref r7, .ref r8, .int (nI ((grw (hea n fr pl) pl o P).length)), .int (nI n), .int (nI P.length), .int ir])), (r1, .inl (K 0, 16, .inl fr)), (r2, .inl (K 0, 16, .inl u.1)), (r3, .inl (K 0, 4, .inl fb)), (r4, .inl (K 0, 4, .inl fp)), (r7, .inl (K 0, 8, .inl u.2.1)), (r8, .inl (K 0, 8, .inl u.2.2))]) (fun (u : (Nat → Int32) × (Nat → Int32) × (Nat → Int32)) => hol (grw (hea n fr pl) pl o P) u.2.1 u.2.2) 0 0 := by
  refine g_ofW (Qc := fun A => va_Qv _ (gB D (gTy K) A _) A) (cc := cX0_growPaths) (maxL := 5) (ret := none) (own := RX0) (by decide) rfl rfl (Nat.le_of_ble_eq_true rfl) ?_
  intro pp ee s mm below meth cc A hfx hnm hK hP hD hE hS hA ls hl
  obtain ⟨hx, hb, hr, hml, hown, hts, hlk⟩ := hfx
  have hl : lv_has ls 5 [(0, .ref r0), (1, .int (nI pl)), (2, .int (if o = true then 1 else 0))] := hl
  have hi0 : ∀ w ∈ u_ws RX0 TX0 12, w ∈ wsX0_growPaths := fun w h => List.mem_cons_of_mem _ (List.mem_append_right _ (h))
  have hnl := hn.le
  refine lv_aload_n hx hb dX0_growPaths_0 rfl (lv_at hl 0 rfl) ?_
  refine lv_iconst (v := 0) hx hb dX0_growPaths_1 (by decide) ?_
  refine va_put (D := D) (ci := 0) (v := .int 0) (ty := .int) (C := RX0) (T := TX0) (N := 12) hx hb hts hi0 tyX0 tyX0_ok nmX0 hown hK hP hD hS 0 rfl rfl 8 (by decide) (hts (.fieldLink RX0 87 "PairedChannels$Reading" "grown" "I") (List.mem_of_getElem? (i := 1) (by decide +kernel))) (fun _ h9 => h9) rfl (by decide +kernel) (rfl) (rfl) (Nat.le_of_ble_eq_true rfl) dX0_growPaths_2 (fun H locs hP hD hS => ?_)
  have hP : va_P D vwCl [(r0, .inr (0, [.ref r1, .ref r2, .ref r3, .ref r4, .ref r5, .ref r6, .ref r7, .ref r8, .int 0, .int (nI n), .int (nI P.length), .int ir])), (r1, .inl (K 0, 16, .inl fr)), (r2, .inl (K 0, 16, .inl fw)), (r3, .inl (K 0, 4, .inl fb)), (r4, .inl (K 0, 4, .inl fp)), (r7, .inl (K 0, 8, .inl gb)), (r8, .inl (K 0, 8, .inl gp))] _ := hP
  have hD : va_D A [(r0, .inr (0, [.ref r1, .ref r2, .ref r3, .ref r4, .ref r5, .ref r6, .ref r7, .ref r8, .int 0, .int (nI n), .int (nI P.length), .int ir])), (r1, .inl (K 0, 16, .inl fr)), (r2, .inl (K 0, 16, .inl fw)), (r3, .inl (K 0, 4, .inl fb)), (r4, .inl (K 0, 4, .inl fp)), (r7, .inl (K 0, 8, .inl gb)), (r8, .inl (K 0, 8, .inl gp))] := hD
  refine lv_iconst (v := 0) hx hb dX0_growPaths_5 (by decide) ?_
  refine lv_istore_n (lv' := [(3, .int 0), (0, .ref r0), (1, .int (nI pl)), (2, .int (if o = true then 1 else 0))]) hx hb dX0_growPaths_6 rfl hl (by decide) rfl (fun ls hl => ?_)
  have e1 : 0 = (nI ((grT (hea n fr pl) pl o P 0).length)) := rfl
  rw [e1] at hP hD
  have hP : va_P D vwCl [(r0, .inr (0, [.ref r1, .ref r2, .ref r3, .ref r4, .ref r5, .ref r6, .ref r7, .ref r8, .int (nI ((grT (hea n fr pl) pl o P 0).length)), .int (nI n), .int (nI P.length), .int ir])), (r1, .inl (K 0, 16, .inl fr)), (r2, .inl (K 0, 16, .inl fw)), (r3, .inl (K 0, 4, .inl fb)), (r4, .inl (K 0, 4, .inl fp)), (r7, .inl (K 0, 8, .inl gb)), (r8, .inl (K 0, 8, .inl gp))] _ := hP
  have hD : va_D A [(r0, .inr (0, [.ref r1, .ref r2, .ref r3, .ref r4, .ref r5, .ref r6, .ref r7, .ref r8, .int (nI ((grT (hea n fr pl) pl o P 0).length)), .int (nI n), .int (nI P.length), .int ir])), (r1, .inl (K 0, 16, .inl fr)), (r2, .inl (K 0, 16, .inl fw)), (r3, .inl (K 0, 4, .inl fb)), (r4, .inl (K 0, 4, .inl fp)), (r7, .inl (K 0, 8, .inl gb)), (r8, .inl (K 0, 8, .inl gp))] := hD
  refine g_loopW (st := []) (N := P.length) (fun t H locs ls => ∃ fw : Nat → Int32, ∃ gb : Nat → Int32, ∃ gp : Nat → Int32, (hol (grT (hea n fr pl) pl o P t) gb gp) ∧ va_P D vwCl [(r0, .inr (0, [.ref r1, .ref r2, .ref r3, .ref r4, .ref r5, .ref r6, .ref r7, .ref r8, .int (nI ((grT (hea n fr pl) pl o P t).length)), .int (nI n), .int (nI P.length), .int ir])), (r1, .inl (K 0, 16, .inl fr)), (r2, .inl (K 0, 16, .inl fw)), (r3, .inl (K 0, 4, .inl fb)), (r4, .inl (K 0, 4, .inl fp)), (r7, .inl (K 0, 8, .inl gb)), (r8, .inl (K 0, 8, .inl gp))] H ∧ va_D A [(r0, .inr (0, [.ref r1, .ref r2, .ref r3, .ref r4, .ref r5, .ref r6, .ref r7, .ref r8, .int (nI ((grT (hea n fr pl) pl o P t).length)), .int (nI n), .int (nI P.length), .int ir])), (r1, .inl (K 0, 16, .inl fr)), (r2, .inl (K 0, 16, .inl fw)), (r3, .inl (K 0, 4, .inl fb)), (r4, .inl (K 0, 4, .inl fp)), (r7, .inl (K 0, 8, .inl gb)), (r8, .inl (K 0, 8, .inl gp))] ∧ va_S A s.heap H locs ∧ lv_has ls 5 [(3, .int (nI t)), (0, .ref r0), (1, .int (nI pl)), (2, .int (if o = true then 1 else 0))]) 0 (Nat.zero_le _) ?_ ?_ ?_
  · intro H locs ls hI
    obtain ⟨fw, gb, gp, hh, hP, hD, hS, hl⟩ := hI
    refine lv_iload_n hx hb dX0_growPaths_7 rfl (lv_at hl 0 rfl) ?_
    refine lv_aload_n hx hb dX0_growPaths_8 rfl (lv_at hl 1 rfl) ?_
    refine va_get (D := D) (ci := 0) (v := .int (nI P.length)) (C := RX0) (T := TX0) (N := 12) hx hb hts hi0 hown hK hP 0 rfl rfl 10 (by decide) (hts (.fieldLink RX0 47 "PairedChannels$Reading" "paths" "I") (List.mem_of_getElem? (i := 2) (by decide +kernel))) (fun _ h9 => h9) rfl dX0_growPaths_9 ?_
    refine lv_icmp_ge (tgt := 104) hx hb dX0_growPaths_12 (by decide) (fun c3 => ?_) (fun c3 => ?_)
    · skip
      have c3 : P.length ≤ P.length := (nI_leI (a := P.length) (b := P.length) (by omega) (by omega)).mp c3
      exact gW_vret (fw, gb, gp) hx hb hr hlk hK hP hD hS (hh) dX0_growPaths_104
    · skip
      have c3 : ¬ P.length ≤ P.length := fun h9 => c3 ((nI_leI (a := P.length) (b := P.length) (by omega) (by omega)).mpr h9)
      omega
  · intro t ht ih2 H locs ls hI
    obtain ⟨fw, gb, gp, hh, hP, hD, hS, hl⟩ := hI
    have hgl := grT_le (hea n fr pl) pl o P t
    refine lv_iload_n hx hb dX0_growPaths_7 rfl (lv_at hl 0 rfl) ?_
    refine lv_aload_n hx hb dX0_growPaths_8 rfl (lv_at hl 1 rfl) ?_
    refine va_get (D := D) (ci := 0) (v := .int (nI P.length)) (C := RX0) (T := TX0) (N := 12) hx hb hts hi0 hown hK hP 0 rfl rfl 10 (by decide) (hts (.fieldLink RX0 47 "PairedChannels$Reading" "paths" "I") (List.mem_of_getElem? (i := 2) (by decide +kernel))) (fun _ h9 => h9) rfl dX0_growPaths_9 ?_
    refine lv_icmp_ge (tgt := 104) hx hb dX0_growPaths_12 (by decide) (fun c4 => ?_) (fun c4 => ?_)
    · skip
      have c4 : P.length ≤ t := (nI_leI (a := P.length) (b := t) (by omega) (by omega)).mp c4
      omega
    · skip
      have c4 : ¬ P.length ≤ t := fun h9 => c4 ((nI_leI (a := P.length) (b := t) (by omega) (by omega)).mpr h9)
      refine lv_iload_n hx hb dX0_growPaths_15 rfl (lv_at hl 0 rfl) ?_
      refine lv_iconst (v := 4) hx hb dX0_growPaths_16 (by decide) ?_
      refine lv_icmp_ge (tgt := 104) hx hb dX0_growPaths_17 (by decide) (fun c5 => ?_) (fun c5 => ?_)
      · skip
        have c5 : 4 ≤ t := (nI_leI (a := 4) (b := t) (by omega) (by omega)).mp c5
        omega
      · skip
        have c5 : ¬ 4 ≤ t := fun h9 => c5 ((nI_leI (a := 4) (b := t) (by omega) (by omega)).mpr h9)
        refine lv_aload_n hx hb dX0_growPaths_20 rfl (lv_at hl 1 rfl) ?_
        refine lv_aload_n hx hb dX0_growPaths_21 rfl (lv_at hl 1 rfl) ?_
        refine va_get (D := D) (ci := 0) (v := .ref r3) (C := RX0) (T := TX0) (N := 12) hx hb hts hi0 hown hK hP 0 rfl rfl 2 (by decide) (hts (.fieldLink RX0 18 "PairedChannels$Reading" "bits" "[I") (List.mem_of_getElem? (i := 3) (by decide +kernel))) (fun _ h9 => h9) rfl dX0_growPaths_22 ?_
        refine lv_iload_n hx hb dX0_growPaths_25 rfl (lv_at hl 0 rfl) ?_
        refine wa_iald hx hb hK hP 3 0 rfl rfl (t) rfl (by omega) (by decide) dX0_growPaths_26 ?_
        refine lv_eqi ((atL P t).1) ((hhP t ht).1) ?_
        refine lv_iload_n hx hb dX0_growPaths_27 rfl (lv_at hl 2 rfl) ?_
        refine gW_i (wr := [(r3, .inl (K 0, 4, .inl fb)), (r4, .inl (K 0, 4, .inl fp)), (r7, .inl (K 0, 8, .inl gb)), (r8, .inl (K 0, 8, .inl gp))]) (W2 := (fun (u : Nat → Int32) => [(r0, .inr (0, [.ref r1, .ref r2, .ref r3, .ref r4, .ref r5, .ref r6, .ref r7, .ref r8, .int (nI ((grT (hea n fr pl) pl o P t).length)), .int (nI n), .int (nI P.length), .int ir])), (r1, .inl (K 0, 16, .inl fr)), (r2, .inl (K 0, 16, .inl u)), (r3, .inl (K 0, 4, .inl fb)), (r4, .inl (K 0, 4, .inl fp)), (r7, .inl (K 0, 8, .inl gb)), (r8, .inl (K 0, 8, .inl gp))])) (va_runV (As := [.int ((atL P t).1), .int (nI pl)]) (rest := []) ⟨hx, hb, hml, hown, hts⟩ ((c_X0_hear l D K r0 r1 r2 r3 r4 r5 r6 r7 r8 n (nI ((grT (hea n fr pl) pl o P t).length)) (nI P.length) ir ((atL P t).1) pl fr fw (by first | assumption | omega) (by first | assumption | omega)) _) (cwV 2 hts gX0_growPaths_X0_hear rfl rfl rfl (by decide +kernel) ⟨Nat.le_of_ble_eq_true rfl, Nat.le_of_ble_eq_true rfl⟩) (gW_preV hE hS hK hP hD hA [0, 1, 2] rfl (by decide) 0 rfl rfl rfl) rfl rfl hl.1 rfl (lv_room (Nat.le_of_ble_eq_true rfl)) dX0_growPaths_28 ⟨Nat.le_of_ble_eq_true rfl, Nat.le_of_ble_eq_true rfl⟩) hS hP hD hA [0, 1, 2] [3, 4, 5, 6] [4, 5, 6, 0, 1, 2, 3] rfl rfl (by decide) (by decide) (by decide) (fun _ => rfl) (fun rv8 u6 H locs h7 hP hD hS => ?_)
        have hP : va_P D vwCl [(r0, .inr (0, [.ref r1, .ref r2, .ref r3, .ref r4, .ref r5, .ref r6, .ref r7, .ref r8, .int (nI ((grT (hea n fr pl) pl o P t).length)), .int (nI n), .int (nI P.length), .int ir])), (r1, .inl (K 0, 16, .inl fr)), (r2, .inl (K 0, 16, .inl u6)), (r3, .inl (K 0, 4, .inl fb)), (r4, .inl (K 0, 4, .inl fp)), (r7, .inl (K 0, 8, .inl gb)), (r8, .inl (K 0, 8, .inl gp))] _ := hP
        have hD : va_D A [(r0, .inr (0, [.ref r1, .ref r2, .ref r3, .ref r4, .ref r5, .ref r6, .ref r7, .ref r8, .int (nI ((grT (hea n fr pl) pl o P t).length)), .int (nI n), .int (nI P.length), .int ir])), (r1, .inl (K 0, 16, .inl fr)), (r2, .inl (K 0, 16, .inl u6)), (r3, .inl (K 0, 4, .inl fb)), (r4, .inl (K 0, 4, .inl fp)), (r7, .inl (K 0, 8, .inl gb)), (r8, .inl (K 0, 8, .inl gp))] := hD
        have h7 : rv8 = hea n fr pl ((atL P t).1) := h7
        subst h7
        refine lv_istore (lv' := [(4, .int (hea n fr pl (atL P t).1)), (3, .int (nI t)), (0, .ref r0), (1, .int (nI pl)), (2, .int (if o = true then 1 else 0))]) hx hb dX0_growPaths_31 hl (by decide) rfl (fun ls hl => ?_)
        refine lv_aload_n hx hb dX0_growPaths_33 rfl (lv_at hl 2 rfl) ?_
        refine lv_aload_n hx hb dX0_growPaths_34 rfl (lv_at hl 2 rfl) ?_
        refine va_get (D := D) (ci := 0) (v := .ref r3) (C := RX0) (T := TX0) (N := 12) hx hb hts hi0 hown hK hP 0 rfl rfl 2 (by decide) (hts (.fieldLink RX0 18 "PairedChannels$Reading" "bits" "[I") (List.mem_of_getElem? (i := 3) (by decide +kernel))) (fun _ h9 => h9) rfl dX0_growPaths_35 ?_
        refine lv_iload_n hx hb dX0_growPaths_38 rfl (lv_at hl 1 rfl) ?_
        refine wa_iald hx hb hK hP 3 0 rfl rfl (t) rfl (by omega) (by decide) dX0_growPaths_39 ?_
        refine lv_eqi ((atL P t).1) ((hhP t ht).1) ?_
        refine lv_aload_n hx hb dX0_growPaths_40 rfl (lv_at hl 2 rfl) ?_
        refine va_get (D := D) (ci := 0) (v := .ref r4) (C := RX0) (T := TX0) (N := 12) hx hb hts hi0 hown hK hP 0 rfl rfl 3 (by decide) (hts (.fieldLink RX0 21 "PairedChannels$Reading" "penalties" "[I") (List.mem_of_getElem? (i := 4) (by decide +kernel))) (fun _ h9 => h9) rfl dX0_growPaths_41 ?_
        refine lv_iload_n hx hb dX0_growPaths_44 rfl (lv_at hl 1 rfl) ?_
        refine wa_iald hx hb hK hP 4 0 rfl rfl (t) rfl (by omega) (by decide) dX0_growPaths_45 ?_
        refine lv_eqi ((atL P t).2) ((hhP t ht).2) ?_
        refine lv_iload hx hb dX0_growPaths_46 (lv_at hl 0 rfl) ?_
        refine g_cut (F0 mm 58 ls [.int (if 0 ≤ (hea n fr pl (atL P t).1) then (0 : Int32) else (-(hea n fr pl (atL P t).1))), .int ((atL P t).2), .int ((atL P t).1), .ref r0]) (fun hJ => ?_) ?_
        · refine lv_if_ge (tgt := 57) hx hb dX0_growPaths_48 (by decide) (fun c9 => ?_) (fun c9 => ?_)
          · skip
            refine lv_iconst (v := 0) hx hb dX0_growPaths_57 (by decide) ?_
            refine lv_eqi ((if 0 ≤ (hea n fr pl (atL P t).1) then (0 : Int32) else (-(hea n fr pl (atL P t).1)))) (if_pos c9).symm ?_
            exact hJ
          · skip
            refine lv_iload hx hb dX0_growPaths_51 (lv_at hl 0 rfl) ?_
            refine lv_ineg hx hb dX0_growPaths_53 ?_
            refine lv_goto (tgt := 58) hx hb dX0_growPaths_54 (by decide) ?_
            refine lv_eqi ((if 0 ≤ (hea n fr pl (atL P t).1) then (0 : Int32) else (-(hea n fr pl (atL P t).1)))) (if_neg c9).symm ?_
            exact hJ
        · skip
          refine lv_eqi ((if hea n fr pl (atL P t).1 < 0 then -(hea n fr pl (atL P t).1) else 0)) (ge_neg _) ?_
          refine lv_iadd hx hb dX0_growPaths_58 ?_
          refine gW_v (wr := [(r1, .inl (K 0, 16, .inl fr)), (r2, .inl (K 0, 16, .inl u6)), (r3, .inl (K 0, 4, .inl fb)), (r4, .inl (K 0, 4, .inl fp))]) (W2 := (fun (u : Unit) => [(r0, .inr (0, [.ref r1, .ref r2, .ref r3, .ref r4, .ref r5, .ref r6, .ref r7, .ref r8, .int (nI (((grT (hea n fr pl) pl o P t).length) + 1)), .int (nI n), .int (nI P.length), .int ir])), (r1, .inl (K 0, 16, .inl fr)), (r2, .inl (K 0, 16, .inl u6)), (r3, .inl (K 0, 4, .inl fb)), (r4, .inl (K 0, 4, .inl fp)), (r7, .inl (K 0, 8, .inl (upd gb ((grT (hea n fr pl) pl o P t).length) ((atL P t).1)))), (r8, .inl (K 0, 8, .inl (upd gp ((grT (hea n fr pl) pl o P t).length) ((atL P t).2 + (if hea n fr pl (atL P t).1 < 0 then -(hea n fr pl (atL P t).1) else 0)))))])) (va_runV (As := [.int ((atL P t).1), .int ((atL P t).2 + (if hea n fr pl (atL P t).1 < 0 then -(hea n fr pl (atL P t).1) else 0))]) (rest := []) ⟨hx, hb, hml, hown, hts⟩ ((c_X0_addGrown l D K r0 r1 r2 r3 r4 r5 r6 r7 r8 n (nI P.length) ir ((grT (hea n fr pl) pl o P t).length) gb gp ((atL P t).1) ((atL P t).2 + (if hea n fr pl (atL P t).1 < 0 then -(hea n fr pl (atL P t).1) else 0)) (by first | assumption | omega)) _) (cwV 2 hts gX0_growPaths_X0_addGrown rfl rfl rfl (by decide +kernel) ⟨Nat.le_of_ble_eq_true rfl, Nat.le_of_ble_eq_true rfl⟩) (gW_preV hE hS hK hP hD hA [0, 5, 6] rfl (by decide) 0 rfl rfl rfl) rfl rfl hl.1 rfl (lv_room (Nat.le_of_ble_eq_true rfl)) dX0_growPaths_59 ⟨Nat.le_of_ble_eq_true rfl, Nat.le_of_ble_eq_true rfl⟩) hS hP hD hA [0, 5, 6] [1, 2, 3, 4] [4, 0, 1, 2, 3, 5, 6] rfl rfl (by decide) (by decide) (by decide) (fun _ => rfl) (fun u10 H locs h11 hP hD hS => ?_)
          have hP : va_P D vwCl [(r0, .inr (0, [.ref r1, .ref r2, .ref r3, .ref r4, .ref r5, .ref r6, .ref r7, .ref r8, .int (nI (((grT (hea n fr pl) pl o P t).length) + 1)), .int (nI n), .int (nI P.length), .int ir])), (r1, .inl (K 0, 16, .inl fr)), (r2, .inl (K 0, 16, .inl u6)), (r3, .inl (K 0, 4, .inl fb)), (r4, .inl (K 0, 4, .inl fp)), (r7, .inl (K 0, 8, .inl (upd gb ((grT (hea n fr pl) pl o P t).length) ((atL P t).1)))), (r8, .inl (K 0, 8, .inl (upd gp ((grT (hea n fr pl) pl o P t).length) ((atL P t).2 + (if hea n fr pl (atL P t).1 < 0 then -(hea n fr pl (atL P t).1) else 0)))))] _ := hP
          have hD : va_D A [(r0, .inr (0, [.ref r1, .ref r2, .ref r3, .ref r4, .ref r5, .ref r6, .ref r7, .ref r8, .int (nI (((grT (hea n fr pl) pl o P t).length) + 1)), .int (nI n), .int (nI P.length), .int ir])), (r1, .inl (K 0, 16, .inl fr)), (r2, .inl (K 0, 16, .inl u6)), (r3, .inl (K 0, 4, .inl fb)), (r4, .inl (K 0, 4, .inl fp)), (r7, .inl (K 0, 8, .inl (upd gb ((grT (hea n fr pl) pl o P t).length) ((atL P t).1)))), (r8, .inl (K 0, 8, .inl (upd gp ((grT (hea n fr pl) pl o P t).length) ((atL P t).2 + (if hea n fr pl (atL P t).1 < 0 then -(hea n fr pl (atL P t).1) else 0)))))] := hD
          refine lv_iload_n hx hb dX0_growPaths_62 rfl (lv_at hl 4 rfl) ?_
          refine lv_if_eq (tgt := 98) hx hb dX0_growPaths_63 (by decide) (fun c63 => ?_) (fun c63 => ?_)
          · skip
            have c63 : ¬ (o = true) := b_eq0 c63
            refine lv_iinc (v := nI (t + 1)) (lv' := [(3, .int (nI (t + 1))), (4, .int (hea n fr pl (atL P t).1)), (0, .ref r0), (1, .int (nI pl)), (2, .int (if o = true then 1 else 0))]) hx hb dX0_growPaths_98 hl (k := 1) rfl (nI_add t 1) (by decide) rfl (fun ls hl => ?_)
            refine lv_goto (tgt := 7) hx hb dX0_growPaths_101 (by decide) ?_
            have e9 : (nI (((grT (hea n fr pl) pl o P t).length) + 1)) = (nI ((grT (hea n fr pl) pl o P (t + 1)).length)) := congrArg nI (by first | rw [grT_t _ _ c63, len1, len1] | rw [grT_f _ _ c63, len1])
            rw [e9] at hP hD
            exact ih2 H locs ls ⟨u6, (upd gb ((grT (hea n fr pl) pl o P t).length) ((atL P t).1)), (upd gp ((grT (hea n fr pl) pl o P t).length) ((atL P t).2 + (if hea n fr pl (atL P t).1 < 0 then -(hea n fr pl (atL P t).1) else 0))), (by first | (rw [grT_t _ _ c63]; exact hol_push1 (hol_push1 hh (gA (hea n fr pl) (atL P t)) rfl) (gZ (hea n fr pl) pl (atL P t)) (len1 _ _)) | (rw [grT_f _ _ c63]; exact hol_push1 hh (gA (hea n fr pl) (atL P t)) rfl)), hP, hD, hS, lv_sub hl [0, 2, 3, 4] rfl⟩
          · skip
            have c63 : o = true := b_ne0 c63
            refine lv_aload_n hx hb dX0_growPaths_66 rfl (lv_at hl 2 rfl) ?_
            refine lv_aload_n hx hb dX0_growPaths_67 rfl (lv_at hl 2 rfl) ?_
            refine va_get (D := D) (ci := 0) (v := .ref r3) (C := RX0) (T := TX0) (N := 12) hx hb hts hi0 hown hK hP 0 rfl rfl 2 (by decide) (hts (.fieldLink RX0 18 "PairedChannels$Reading" "bits" "[I") (List.mem_of_getElem? (i := 3) (by decide +kernel))) (fun _ h9 => h9) rfl dX0_growPaths_68 ?_
            refine lv_iload_n hx hb dX0_growPaths_71 rfl (lv_at hl 1 rfl) ?_
            refine wa_iald hx hb hK hP 3 0 rfl rfl (t) rfl (by omega) (by decide) dX0_growPaths_72 ?_
            refine lv_eqi ((atL P t).1) ((hhP t ht).1) ?_
            refine lv_iconst (v := 1) hx hb dX0_growPaths_73 (by decide) ?_
            refine lv_iload_n hx hb dX0_growPaths_74 rfl (lv_at hl 3 rfl) ?_
            refine lv_ishl hx hb dX0_growPaths_75 ?_
            refine lv_ior hx hb dX0_growPaths_76 ?_
            refine lv_aload_n hx hb dX0_growPaths_77 rfl (lv_at hl 2 rfl) ?_
            refine va_get (D := D) (ci := 0) (v := .ref r4) (C := RX0) (T := TX0) (N := 12) hx hb hts hi0 hown hK hP 0 rfl rfl 3 (by decide) (hts (.fieldLink RX0 21 "PairedChannels$Reading" "penalties" "[I") (List.mem_of_getElem? (i := 4) (by decide +kernel))) (fun _ h9 => h9) rfl dX0_growPaths_78 ?_
            refine lv_iload_n hx hb dX0_growPaths_81 rfl (lv_at hl 1 rfl) ?_
            refine wa_iald hx hb hK hP 4 0 rfl rfl (t) rfl (by omega) (by decide) dX0_growPaths_82 ?_
            refine lv_eqi ((atL P t).2) ((hhP t ht).2) ?_
            refine lv_iload hx hb dX0_growPaths_83 (lv_at hl 0 rfl) ?_
            refine g_cut (F0 mm 94 ls [.int (if (hea n fr pl (atL P t).1) ≤ 0 then (0 : Int32) else (hea n fr pl (atL P t).1)), .int ((atL P t).2), .int ((atL P t).1 ||| (1 <<< ((nI pl) &&& 31))), .ref r0]) (fun hJ => ?_) ?_
            · refine lv_if_le (tgt := 93) hx hb dX0_growPaths_85 (by decide) (fun c14 => ?_) (fun c14 => ?_)
              · skip
                refine lv_iconst (v := 0) hx hb dX0_growPaths_93 (by decide) ?_
                refine lv_eqi ((if (hea n fr pl (atL P t).1) ≤ 0 then (0 : Int32) else (hea n fr pl (atL P t).1))) (if_pos c14).symm ?_
                exact hJ
              · skip
                refine lv_iload hx hb dX0_growPaths_88 (lv_at hl 0 rfl) ?_
                refine lv_goto (tgt := 94) hx hb dX0_growPaths_90 (by decide) ?_
                refine lv_eqi ((if (hea n fr pl (atL P t).1) ≤ 0 then (0 : Int32) else (hea n fr pl (atL P t).1))) (if_neg c14).symm ?_
                exact hJ
            · skip
              refine lv_eqi ((if 0 < hea n fr pl (atL P t).1 then hea n fr pl (atL P t).1 else 0)) (le_pos _) ?_
              refine lv_iadd hx hb dX0_growPaths_94 ?_
              refine gW_v (wr := [(r1, .inl (K 0, 16, .inl fr)), (r2, .inl (K 0, 16, .inl u6)), (r3, .inl (K 0, 4, .inl fb)), (r4, .inl (K 0, 4, .inl fp))]) (W2 := (fun (u : Unit) => [(r0, .inr (0, [.ref r1, .ref r2, .ref r3, .ref r4, .ref r5, .ref r6, .ref r7, .ref r8, .int (nI ((((grT (hea n fr pl) pl o P t).length) + 1) + 1)), .int (nI n), .int (nI P.length), .int ir])), (r1, .inl (K 0, 16, .inl fr)), (r2, .inl (K 0, 16, .inl u6)), (r3, .inl (K 0, 4, .inl fb)), (r4, .inl (K 0, 4, .inl fp)), (r7, .inl (K 0, 8, .inl (upd (upd gb ((grT (hea n fr pl) pl o P t).length) ((atL P t).1)) (((grT (hea n fr pl) pl o P t).length) + 1) ((atL P t).1 ||| (1 <<< ((nI pl) &&& 31)))))), (r8, .inl (K 0, 8, .inl (upd (upd gp ((grT (hea n fr pl) pl o P t).length) ((atL P t).2 + (if hea n fr pl (atL P t).1 < 0 then -(hea n fr pl (atL P t).1) else 0))) (((grT (hea n fr pl) pl o P t).length) + 1) ((atL P t).2 + (if 0 < hea n fr pl (atL P t).1 then hea n fr pl (atL P t).1 else 0)))))])) (va_runV (As := [.int ((atL P t).1 ||| (1 <<< ((nI pl) &&& 31))), .int ((atL P t).2 + (if 0 < hea n fr pl (atL P t).1 then hea n fr pl (atL P t).1 else 0))]) (rest := []) ⟨hx, hb, hml, hown, hts⟩ ((c_X0_addGrown l D K r0 r1 r2 r3 r4 r5 r6 r7 r8 n (nI P.length) ir (((grT (hea n fr pl) pl o P t).length) + 1) (upd gb ((grT (hea n fr pl) pl o P t).length) ((atL P t).1)) (upd gp ((grT (hea n fr pl) pl o P t).length) ((atL P t).2 + (if hea n fr pl (atL P t).1 < 0 then -(hea n fr pl (atL P t).1) else 0))) ((atL P t).1 ||| (1 <<< ((nI pl) &&& 31))) ((atL P t).2 + (if 0 < hea n fr pl (atL P t).1 then hea n fr pl (atL P t).1 else 0)) (by first | assumption | omega)) _) (cwV 2 hts gX0_growPaths_X0_addGrown rfl rfl rfl (by decide +kernel) ⟨Nat.le_of_ble_eq_true rfl, Nat.le_of_ble_eq_true rfl⟩) (gW_preV hE hS hK hP hD hA [0, 5, 6] rfl (by decide) 0 rfl rfl rfl) rfl rfl hl.1 rfl (lv_room (Nat.le_of_ble_eq_true rfl)) dX0_growPaths_95 ⟨Nat.le_of_ble_eq_true rfl, Nat.le_of_ble_eq_true rfl⟩) hS hP hD hA [0, 5, 6] [1, 2, 3, 4] [4, 0, 1, 2, 3, 5, 6] rfl rfl (by decide) (by decide) (by decide) (fun _ => rfl) (fun u15 H locs h16 hP hD hS => ?_)
              have hP : va_P D vwCl [(r0, .inr (0, [.ref r1, .ref r2, .ref r3, .ref r4, .ref r5, .ref r6, .ref r7, .ref r8, .int (nI ((((grT (hea n fr pl) pl o P t).length) + 1) + 1)), .int (nI n), .int (nI P.length), .int ir])), (r1, .inl (K 0, 16, .inl fr)), (r2, .inl (K 0, 16, .inl u6)), (r3, .inl (K 0, 4, .inl fb)), (r4, .inl (K 0, 4, .inl fp)), (r7, .inl (K 0, 8, .inl (upd (upd gb ((grT (hea n fr pl) pl o P t).length) ((atL P t).1)) (((grT (hea n fr pl) pl o P t).length) + 1) ((atL P t).1 ||| (1 <<< ((nI pl) &&& 31)))))), (r8, .inl (K 0, 8, .inl (upd (upd gp ((grT (hea n fr pl) pl o P t).length) ((atL P t).2 + (if hea n fr pl (atL P t).1 < 0 then -(hea n fr pl (atL P t).1) else 0))) (((grT (hea n fr pl) pl o P t).length) + 1) ((atL P t).2 + (if 0 < hea n fr pl (atL P t).1 then hea n fr pl (atL P t).1 else 0)))))] _ := hP
              have hD : va_D A [(r0, .inr (0, [.ref r1, .ref r2, .ref r3, .ref r4, .ref r5, .ref r6, .ref r7, .ref r8, .int (nI ((((grT (hea n fr pl) pl o P t).length) + 1) + 1)), .int (nI n), .int (nI P.length), .int ir])), (r1, .inl (K 0, 16, .inl fr)), (r2, .inl (K 0, 16, .inl u6)), (r3, .inl (K 0, 4, .inl fb)), (r4, .inl (K 0, 4, .inl fp)), (r7, .inl (K 0, 8, .inl (upd (upd gb ((grT (hea n fr pl) pl o P t).length) ((atL P t).1)) (((grT (hea n fr pl) pl o P t).length) + 1) ((atL P t).1 ||| (1 <<< ((nI pl) &&& 31)))))), (r8, .inl (K 0, 8, .inl (upd (upd gp ((grT (hea n fr pl) pl o P t).length) ((atL P t).2 + (if hea n fr pl (atL P t).1 < 0 then -(hea n fr pl (atL P t).1) else 0))) (((grT (hea n fr pl) pl o P t).length) + 1) ((atL P t).2 + (if 0 < hea n fr pl (atL P t).1 then hea n fr pl (atL P t).1 else 0)))))] := hD
              refine lv_iinc (v := nI (t + 1)) (lv' := [(3, .int (nI (t + 1))), (4, .int (hea n fr pl (atL P t).1)), (0, .ref r0), (1, .int (nI pl)), (2, .int (if o = true then 1 else 0))]) hx hb dX0_growPaths_98 hl (k := 1) rfl (nI_add t 1) (by decide) rfl (fun ls hl => ?_)
              refine lv_goto (tgt := 7) hx hb dX0_growPaths_101 (by decide) ?_
              have e9 : (nI ((((grT (hea n fr pl) pl o P t).length) + 1) + 1)) = (nI ((grT (hea n fr pl) pl o P (t + 1)).length)) := congrArg nI (by first | rw [grT_t _ _ c63, len1, len1] | rw [grT_f _ _ c63, len1])
              rw [e9] at hP hD
              exact ih2 H locs ls ⟨u6, (upd (upd gb ((grT (hea n fr pl) pl o P t).length) ((atL P t).1)) (((grT (hea n fr pl) pl o P t).length) + 1) ((atL P t).1 ||| (1 <<< ((nI pl) &&& 31)))), (upd (upd gp ((grT (hea n fr pl) pl o P t).length) ((atL P t).2 + (if hea n fr pl (atL P t).1 < 0 then -(hea n fr pl (atL P t).1) else 0))) (((grT (hea n fr pl) pl o P t).length) + 1) ((atL P t).2 + (if 0 < hea n fr pl (atL P t).1 then hea n fr pl (atL P t).1 else 0))), (by first | (rw [grT_t _ _ c63]; exact hol_push1 (hol_push1 hh (gA (hea n fr pl) (atL P t)) rfl) (gZ (hea n fr pl) pl (atL P t)) (len1 _ _)) | (rw [grT_f _ _ c63]; exact hol_push1 hh (gA (hea n fr pl) (atL P t)) rfl)), hP, hD, hS, lv_sub hl [0, 2, 3, 4] rfl⟩
  · exact ⟨fw, gb, gp, (hol_nil _ _), hP, hD, hS, lv_sub hl [0, 1, 2, 3] rfl⟩
