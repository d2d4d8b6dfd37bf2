set_option maxHeartbeats 4000000 in
set_option maxRecDepth 100000 in
theorem c_X0_orderByPenalties (l : Launch) (D : va_G) (K : Nat → ClassId) (r0 : Nat) (r1 : Nat) (r2 : Nat) (r3 : Nat) (r4 : Nat) (r5 : Nat) (r6 : Nat) (r7 : Nat) (r8 : Nat) (n : Nat) (ig : Int32) (ir : Int32) (P : PL) (fb : Nat → Int32) (fp : Nat → Int32) (gb : Nat → Int32) (gp : Nat → Int32) (hhP : hol P fb fp) (hP4 : P.length ≤ 4) (hbp : okP 100000 P) : MWv l yX0_orderByPenalties wsX0_orderByPenalties ({ frames := 1, cells := 0, slots := 0, locals := 24 } : Room) D (gTy K) [.ref r0] [(r0, .inr (0, [.ref r1, .ref r2, .ref r3, .ref r4, .ref r5, .ref r6, .ref r7, .ref r8, .int ig, .int (nI n), .int (nI P.length), .int ir])), (r3, .inl (K 0, 4, .inl fb)), (r4, .inl (K 0, 4, .inl fp)), (r7, .inl (K 0, 8, .inl gb)), (r8, .inl (K 0, 8, .inl gp))] (fun (u : (Nat → Int32) × (Nat → Int32) × (Nat → Int32) × (Nat → Int32)) => [(r0, .inr (0, [.ref r1, .ref r2, .ref r3, .ref r4, .ref r5, .ref r6, .ref r7, .ref r8, .int (nI P.length), .int (nI n), .int (nI P.length), .int ir])), (r3, .inl (K 0, 4, .inl u.1)), (r4, .inl (K 0, 4, .inl u.2.1)), (r7, .inl (K 0, 8, .inl u.2.2.1)), (r8, .inl (K 0, 8, .inl u.2.2.2))]) (fun (u : (Nat → Int32) × (Nat → Int32) × (Nat → Int32) × (Nat → Int32)) => hol (ordL P) u.1 u.2.1) 0 0 := by
  refine g_ofW (Qc := fun A => va_Qv _ (gB D (gTy K) A _) A) (cc := cX0_orderByPenalties) (maxL := 3) (ret := none) (own := RX0) (by decide) rfl rfl (Nat.le_of_ble_eq_true rfl) ?_
  intro pp ee s mm below meth cc A hfx hnm hK hP hD hE hS hA ls hl
  obtain ⟨hx, hb, hr, hml, hown, hts, hlk⟩ := hfx
  have hl : lv_has ls 3 [(0, .ref r0)] := hl
  have hi0 : ∀ w ∈ u_ws RX0 TX0 12, w ∈ wsX0_orderByPenalties := fun w h => List.mem_cons_of_mem _ (List.mem_append_right _ (h))
  refine lv_aload_n hx hb dX0_orderByPenalties_0 rfl (lv_at hl 0 rfl) ?_
  refine lv_iconst (v := 0) hx hb dX0_orderByPenalties_1 (by decide) ?_
  refine va_put (D := D) (ci := 0) (v := .int 0) (ty := .int) (C := RX0) (T := TX0) (N := 12) hx hb hts hi0 tyX0 tyX0_ok nmX0 hown hK hP hD hS 0 rfl rfl 8 (by decide) (hts (.fieldLink RX0 87 "PairedChannels$Reading" "grown" "I") (List.mem_of_getElem? (i := 1) (by decide +kernel))) (fun _ h9 => h9) rfl (by decide +kernel) (rfl) (rfl) (Nat.le_of_ble_eq_true rfl) dX0_orderByPenalties_2 (fun H locs hP hD hS => ?_)
  have hP : va_P D vwCl [(r0, .inr (0, [.ref r1, .ref r2, .ref r3, .ref r4, .ref r5, .ref r6, .ref r7, .ref r8, .int 0, .int (nI n), .int (nI P.length), .int ir])), (r3, .inl (K 0, 4, .inl fb)), (r4, .inl (K 0, 4, .inl fp)), (r7, .inl (K 0, 8, .inl gb)), (r8, .inl (K 0, 8, .inl gp))] _ := hP
  have hD : va_D A [(r0, .inr (0, [.ref r1, .ref r2, .ref r3, .ref r4, .ref r5, .ref r6, .ref r7, .ref r8, .int 0, .int (nI n), .int (nI P.length), .int ir])), (r3, .inl (K 0, 4, .inl fb)), (r4, .inl (K 0, 4, .inl fp)), (r7, .inl (K 0, 8, .inl gb)), (r8, .inl (K 0, 8, .inl gp))] := hD
  refine lv_iconst (v := 0) hx hb dX0_orderByPenalties_5 (by decide) ?_
  refine lv_istore_n (lv' := [(1, .int 0), (0, .ref r0)]) hx hb dX0_orderByPenalties_6 rfl hl (by decide) rfl (fun ls hl => ?_)
  have e1 : 0 = (nI 0) := rfl
  rw [e1] at hP hD
  have hP : va_P D vwCl [(r0, .inr (0, [.ref r1, .ref r2, .ref r3, .ref r4, .ref r5, .ref r6, .ref r7, .ref r8, .int (nI 0), .int (nI n), .int (nI P.length), .int ir])), (r3, .inl (K 0, 4, .inl fb)), (r4, .inl (K 0, 4, .inl fp)), (r7, .inl (K 0, 8, .inl gb)), (r8, .inl (K 0, 8, .inl gp))] _ := hP
  have hD : va_D A [(r0, .inr (0, [.ref r1, .ref r2, .ref r3, .ref r4, .ref r5, .ref r6, .ref r7, .ref r8, .int (nI 0), .int (nI n), .int (nI P.length), .int ir])), (r3, .inl (K 0, 4, .inl fb)), (r4, .inl (K 0, 4, .inl fp)), (r7, .inl (K 0, 8, .inl gb)), (r8, .inl (K 0, 8, .inl gp))] := hD
  refine g_loopW (st := []) (N := P.length) (fun t H locs ls => ∃ gb : Nat → Int32, ∃ gp : Nat → Int32, (∀ i, i < t → gb i = fb i ∧ gp i = fp i) ∧ va_P D vwCl [(r0, .inr (0, [.ref r1, .ref r2, .ref r3, .ref r4, .ref r5, .ref r6, .ref r7, .ref r8, .int (nI t), .int (nI n), .int (nI P.length), .int ir])), (r3, .inl (K 0, 4, .inl fb)), (r4, .inl (K 0, 4, .inl fp)), (r7, .inl (K 0, 8, .inl gb)), (r8, .inl (K 0, 8, .inl gp))] H ∧ va_D A [(r0, .inr (0, [.ref r1, .ref r2, .ref r3, .ref r4, .ref r5, .ref r6, .ref r7, .ref r8, .int (nI t), .int (nI n), .int (nI P.length), .int ir])), (r3, .inl (K 0, 4, .inl fb)), (r4, .inl (K 0, 4, .inl fp)), (r7, .inl (K 0, 8, .inl gb)), (r8, .inl (K 0, 8, .inl gp))] ∧ va_S A s.heap H locs ∧ lv_has ls 3 [(1, .int (nI t)), (0, .ref r0)]) 0 (Nat.zero_le _) ?_ ?_ ?_
  · intro H locs ls hI
    obtain ⟨gb, gp, hh, hP, hD, hS, hl⟩ := hI
    have hL : hol P gb gp := fun i hi => by rw [(hh i hi).1, (hh i hi).2]; exact hhP i hi
    have hbq : ∀ t, t < P.length → 0 ≤ (gp t).toInt ∧ (gp t).toInt ≤ 100000 := fun t ht => by rw [(hL t ht).2]; exact hbp t ht
    refine lv_iload_n hx hb dX0_orderByPenalties_7 rfl (lv_at hl 0 rfl) ?_
    refine lv_aload_n hx hb dX0_orderByPenalties_8 rfl (lv_at hl 1 rfl) ?_
    refine va_get (D := D) (ci := 0) (v := .int (nI P.length)) (C := RX0) (T := TX0) (N := 12) hx hb hts hi0 hown hK hP 0 rfl rfl 10 (by decide) (hts (.fieldLink RX0 47 "PairedChannels$Reading" "paths" "I") (List.mem_of_getElem? (i := 2) (by decide +kernel))) (fun _ h9 => h9) rfl dX0_orderByPenalties_9 ?_
    refine lv_icmp_ge (tgt := 37) hx hb dX0_orderByPenalties_12 (by decide) (fun c3 => ?_) (fun c3 => ?_)
    · skip
      have c3 : P.length ≤ P.length := (nI_leI (a := P.length) (b := P.length) (by omega) (by omega)).mp c3
      refine lv_iconst (v := 0) hx hb dX0_orderByPenalties_37 (by decide) ?_
      refine lv_istore_n (lv' := [(1, .int 0), (0, .ref r0)]) hx hb dX0_orderByPenalties_38 rfl hl (by decide) rfl (fun ls hl => ?_)
      refine g_loopW (st := []) (N := P.length) (fun t H locs ls => ∃ f2 : Nat → Int32, ∃ p2 : Nat → Int32, (∀ i, i < t → f2 (rk P i) = (atL P i).1 ∧ p2 (rk P i) = (atL P i).2) ∧ va_P D vwCl [(r0, .inr (0, [.ref r1, .ref r2, .ref r3, .ref r4, .ref r5, .ref r6, .ref r7, .ref r8, .int (nI P.length), .int (nI n), .int (nI P.length), .int ir])), (r3, .inl (K 0, 4, .inl f2)), (r4, .inl (K 0, 4, .inl p2)), (r7, .inl (K 0, 8, .inl gb)), (r8, .inl (K 0, 8, .inl gp))] H ∧ va_D A [(r0, .inr (0, [.ref r1, .ref r2, .ref r3, .ref r4, .ref r5, .ref r6, .ref r7, .ref r8, .int (nI P.length), .int (nI n), .int (nI P.length), .int ir])), (r3, .inl (K 0, 4, .inl f2)), (r4, .inl (K 0, 4, .inl p2)), (r7, .inl (K 0, 8, .inl gb)), (r8, .inl (K 0, 8, .inl gp))] ∧ va_S A s.heap H locs ∧ lv_has ls 3 [(1, .int (nI t)), (0, .ref r0)]) 0 (Nat.zero_le _) ?_ ?_ ?_
      · intro H locs ls hI
        obtain ⟨f2, p2, h2, hP, hD, hS, hl⟩ := hI
        refine lv_iload_n hx hb dX0_orderByPenalties_39 rfl (lv_at hl 0 rfl) ?_
        refine lv_aload_n hx hb dX0_orderByPenalties_40 rfl (lv_at hl 1 rfl) ?_
        refine va_get (D := D) (ci := 0) (v := .int (nI P.length)) (C := RX0) (T := TX0) (N := 12) hx hb hts hi0 hown hK hP 0 rfl rfl 8 (by decide) (hts (.fieldLink RX0 87 "PairedChannels$Reading" "grown" "I") (List.mem_of_getElem? (i := 1) (by decide +kernel))) (fun _ h9 => h9) rfl dX0_orderByPenalties_41 ?_
        refine lv_icmp_ge (tgt := 88) hx hb dX0_orderByPenalties_44 (by decide) (fun c5 => ?_) (fun c5 => ?_)
        · skip
          have c5 : P.length ≤ P.length := (nI_leI (a := P.length) (b := P.length) (by omega) (by omega)).mp c5
          exact gW_vret (f2, p2, gb, gp) hx hb hr hlk hK hP hD hS (hol_ord h2) dX0_orderByPenalties_88
        · skip
          have c5 : ¬ P.length ≤ P.length := fun h9 => c5 ((nI_leI (a := P.length) (b := P.length) (by omega) (by omega)).mpr h9)
          omega
      · intro t ht ih4 H locs ls hI
        obtain ⟨f2, p2, h2, hP, hD, hS, hl⟩ := hI
        have hrl := rk_lt ht
        refine lv_iload_n hx hb dX0_orderByPenalties_39 rfl (lv_at hl 0 rfl) ?_
        refine lv_aload_n hx hb dX0_orderByPenalties_40 rfl (lv_at hl 1 rfl) ?_
        refine va_get (D := D) (ci := 0) (v := .int (nI P.length)) (C := RX0) (T := TX0) (N := 12) hx hb hts hi0 hown hK hP 0 rfl rfl 8 (by decide) (hts (.fieldLink RX0 87 "PairedChannels$Reading" "grown" "I") (List.mem_of_getElem? (i := 1) (by decide +kernel))) (fun _ h9 => h9) rfl dX0_orderByPenalties_41 ?_
        refine lv_icmp_ge (tgt := 88) hx hb dX0_orderByPenalties_44 (by decide) (fun c6 => ?_) (fun c6 => ?_)
        · skip
          have c6 : P.length ≤ t := (nI_leI (a := P.length) (b := t) (by omega) (by omega)).mp c6
          omega
        · skip
          have c6 : ¬ P.length ≤ t := fun h9 => c6 ((nI_leI (a := P.length) (b := t) (by omega) (by omega)).mpr h9)
          refine lv_aload_n hx hb dX0_orderByPenalties_47 rfl (lv_at hl 1 rfl) ?_
          refine lv_iload_n hx hb dX0_orderByPenalties_48 rfl (lv_at hl 0 rfl) ?_
          refine gR_i (va_runV (As := [.int (nI t)]) (rest := []) ⟨hx, hb, hml, hown, hts⟩ (c_X0_rankOfGrown l D K r0 r1 r2 r3 r4 r5 r6 r7 r8 n (nI P.length) ir P.length gp t (by omega) (by first | assumption | omega) (hbq)) (cwV 1 hts gX0_orderByPenalties_X0_rankOfGrown rfl rfl rfl (by decide +kernel) ⟨Nat.le_of_ble_eq_true rfl, Nat.le_of_ble_eq_true rfl⟩) (gR_preV hE hS hK hP [0, 4] rfl 0 rfl rfl rfl) rfl rfl hl.1 rfl (lv_room (Nat.le_of_ble_eq_true rfl)) dX0_orderByPenalties_49 ⟨Nat.le_of_ble_eq_true rfl, Nat.le_of_ble_eq_true rfl⟩) hS hP (fun rv8 H locs h7 hP hS => ?_)
          have h7 : rv8 = nI (rkF gp t P.length) := h7
          subst h7
          refine lv_eqi (nI (rk P t)) (congrArg nI (hol_pen hL ht)) ?_
          refine lv_istore_n (lv' := [(2, .int (nI (rk P t))), (1, .int (nI t)), (0, .ref r0)]) hx hb dX0_orderByPenalties_52 rfl hl (by decide) rfl (fun ls hl => ?_)
          refine lv_iload_n hx hb dX0_orderByPenalties_53 rfl (lv_at hl 0 rfl) ?_
          refine lv_iconst (v := 4) hx hb dX0_orderByPenalties_54 (by decide) ?_
          refine lv_icmp_ge (tgt := 82) hx hb dX0_orderByPenalties_55 (by decide) (fun c9 => ?_) (fun c9 => ?_)
          · skip
            have c9 : 4 ≤ rk P t := (nI_leI (a := 4) (b := rk P t) (by omega) (by omega)).mp c9
            omega
          · skip
            have c9 : ¬ 4 ≤ rk P t := fun h9 => c9 ((nI_leI (a := 4) (b := rk P t) (by omega) (by omega)).mpr h9)
            refine lv_aload_n hx hb dX0_orderByPenalties_58 rfl (lv_at hl 2 rfl) ?_
            refine va_get (D := D) (ci := 0) (v := .ref r3) (C := RX0) (T := TX0) (N := 12) hx hb hts hi0 hown hK hP 0 rfl rfl 2 (by decide) (hts (.fieldLink RX0 18 "PairedChannels$Reading" "bits" "[I") (List.mem_of_getElem? (i := 3) (by decide +kernel))) (fun _ h9 => h9) rfl dX0_orderByPenalties_59 ?_
            refine lv_iload_n hx hb dX0_orderByPenalties_62 rfl (lv_at hl 0 rfl) ?_
            refine lv_aload_n hx hb dX0_orderByPenalties_63 rfl (lv_at hl 2 rfl) ?_
            refine va_get (D := D) (ci := 0) (v := .ref r7) (C := RX0) (T := TX0) (N := 12) hx hb hts hi0 hown hK hP 0 rfl rfl 6 (by decide) (hts (.fieldLink RX0 31 "PairedChannels$Reading" "grownBits" "[I") (List.mem_of_getElem? (i := 5) (by decide +kernel))) (fun _ h9 => h9) rfl dX0_orderByPenalties_64 ?_
            refine lv_iload_n hx hb dX0_orderByPenalties_67 rfl (lv_at hl 1 rfl) ?_
            refine wa_iald hx hb hK hP 3 0 rfl rfl (t) rfl (by omega) (by decide) dX0_orderByPenalties_68 ?_
            refine wa_iast (x := gb t) hx hb hK hP hD hS 1 0 rfl rfl (rk P t) rfl (by omega) (by decide) dX0_orderByPenalties_69 (fun H locs hP hD hS => ?_)
            have hP : va_P D vwCl [(r0, .inr (0, [.ref r1, .ref r2, .ref r3, .ref r4, .ref r5, .ref r6, .ref r7, .ref r8, .int (nI P.length), .int (nI n), .int (nI P.length), .int ir])), (r3, .inl (K 0, 4, .inl (upd f2 (rk P t) (gb t)))), (r4, .inl (K 0, 4, .inl p2)), (r7, .inl (K 0, 8, .inl gb)), (r8, .inl (K 0, 8, .inl gp))] _ := hP
            have hD : va_D A [(r0, .inr (0, [.ref r1, .ref r2, .ref r3, .ref r4, .ref r5, .ref r6, .ref r7, .ref r8, .int (nI P.length), .int (nI n), .int (nI P.length), .int ir])), (r3, .inl (K 0, 4, .inl (upd f2 (rk P t) (gb t)))), (r4, .inl (K 0, 4, .inl p2)), (r7, .inl (K 0, 8, .inl gb)), (r8, .inl (K 0, 8, .inl gp))] := hD
            refine lv_aload_n hx hb dX0_orderByPenalties_70 rfl (lv_at hl 2 rfl) ?_
            refine va_get (D := D) (ci := 0) (v := .ref r4) (C := RX0) (T := TX0) (N := 12) hx hb hts hi0 hown hK hP 0 rfl rfl 3 (by decide) (hts (.fieldLink RX0 21 "PairedChannels$Reading" "penalties" "[I") (List.mem_of_getElem? (i := 4) (by decide +kernel))) (fun _ h9 => h9) rfl dX0_orderByPenalties_71 ?_
            refine lv_iload_n hx hb dX0_orderByPenalties_74 rfl (lv_at hl 0 rfl) ?_
            refine lv_aload_n hx hb dX0_orderByPenalties_75 rfl (lv_at hl 2 rfl) ?_
            refine va_get (D := D) (ci := 0) (v := .ref r8) (C := RX0) (T := TX0) (N := 12) hx hb hts hi0 hown hK hP 0 rfl rfl 7 (by decide) (hts (.fieldLink RX0 34 "PairedChannels$Reading" "grownPenalties" "[I") (List.mem_of_getElem? (i := 6) (by decide +kernel))) (fun _ h9 => h9) rfl dX0_orderByPenalties_76 ?_
            refine lv_iload_n hx hb dX0_orderByPenalties_79 rfl (lv_at hl 1 rfl) ?_
            refine wa_iald hx hb hK hP 4 0 rfl rfl (t) rfl (by omega) (by decide) dX0_orderByPenalties_80 ?_
            refine wa_iast (x := gp t) hx hb hK hP hD hS 2 0 rfl rfl (rk P t) rfl (by omega) (by decide) dX0_orderByPenalties_81 (fun H locs hP hD hS => ?_)
            have hP : va_P D vwCl [(r0, .inr (0, [.ref r1, .ref r2, .ref r3, .ref r4, .ref r5, .ref r6, .ref r7, .ref r8, .int (nI P.length), .int (nI n), .int (nI P.length), .int ir])), (r3, .inl (K 0, 4, .inl (upd f2 (rk P t) (gb t)))), (r4, .inl (K 0, 4, .inl (upd p2 (rk P t) (gp t)))), (r7, .inl (K 0, 8, .inl gb)), (r8, .inl (K 0, 8, .inl gp))] _ := hP
            have hD : va_D A [(r0, .inr (0, [.ref r1, .ref r2, .ref r3, .ref r4, .ref r5, .ref r6, .ref r7, .ref r8, .int (nI P.length), .int (nI n), .int (nI P.length), .int ir])), (r3, .inl (K 0, 4, .inl (upd f2 (rk P t) (gb t)))), (r4, .inl (K 0, 4, .inl (upd p2 (rk P t) (gp t)))), (r7, .inl (K 0, 8, .inl gb)), (r8, .inl (K 0, 8, .inl gp))] := hD
            refine lv_iinc (v := nI (t + 1)) (lv' := [(1, .int (nI (t + 1))), (2, .int (nI (rk P t))), (0, .ref r0)]) hx hb dX0_orderByPenalties_82 hl (k := 1) rfl (nI_add t 1) (by decide) rfl (fun ls hl => ?_)
            refine lv_goto (tgt := 39) hx hb dX0_orderByPenalties_85 (by decide) ?_
            exact ih4 H locs ls ⟨(upd f2 (rk P t) (gb t)), (upd p2 (rk P t) (gp t)), (fun i hi => by by_cases e : i = t; subst e; exact ⟨pk_us.trans (hL i ht).1, pk_us.trans (hL i ht).2⟩; rw [pk_un (fun h => e (rk_inj (by omega) ht h)), pk_un (fun h => e (rk_inj (by omega) ht h))]; exact h2 i (by omega)), hP, hD, hS, lv_sub hl [0, 2] rfl⟩
      · exact ⟨fb, fp, (fun i hi => absurd hi (Nat.not_lt_zero i)), hP, hD, hS, lv_sub hl [0, 1] rfl⟩
    · skip
      have c3 : ¬ P.length ≤ P.length := fun h9 => c3 ((nI_leI (a := P.length) (b := P.length) (by omega) (by omega)).mpr h9)
      omega
  · intro t ht ih2 H locs ls hI
    obtain ⟨gb, gp, hh, hP, hD, hS, hl⟩ := hI
    refine lv_iload_n hx hb dX0_orderByPenalties_7 rfl (lv_at hl 0 rfl) ?_
    refine lv_aload_n hx hb dX0_orderByPenalties_8 rfl (lv_at hl 1 rfl) ?_
    refine va_get (D := D) (ci := 0) (v := .int (nI P.length)) (C := RX0) (T := TX0) (N := 12) hx hb hts hi0 hown hK hP 0 rfl rfl 10 (by decide) (hts (.fieldLink RX0 47 "PairedChannels$Reading" "paths" "I") (List.mem_of_getElem? (i := 2) (by decide +kernel))) (fun _ h9 => h9) rfl dX0_orderByPenalties_9 ?_
    refine lv_icmp_ge (tgt := 37) hx hb dX0_orderByPenalties_12 (by decide) (fun c10 => ?_) (fun c10 => ?_)
    · skip
      have c10 : P.length ≤ t := (nI_leI (a := P.length) (b := t) (by omega) (by omega)).mp c10
      omega
    · skip
      have c10 : ¬ P.length ≤ t := fun h9 => c10 ((nI_leI (a := P.length) (b := t) (by omega) (by omega)).mpr h9)
      refine lv_aload_n hx hb dX0_orderByPenalties_15 rfl (lv_at hl 1 rfl) ?_
      refine lv_aload_n hx hb dX0_orderByPenalties_16 rfl (lv_at hl 1 rfl) ?_
      refine va_get (D := D) (ci := 0) (v := .ref r3) (C := RX0) (T := TX0) (N := 12) hx hb hts hi0 hown hK hP 0 rfl rfl 2 (by decide) (hts (.fieldLink RX0 18 "PairedChannels$Reading" "bits" "[I") (List.mem_of_getElem? (i := 3) (by decide +kernel))) (fun _ h9 => h9) rfl dX0_orderByPenalties_17 ?_
      refine lv_iload_n hx hb dX0_orderByPenalties_20 rfl (lv_at hl 0 rfl) ?_
      refine wa_iald hx hb hK hP 1 0 rfl rfl (t) rfl (by omega) (by decide) dX0_orderByPenalties_21 ?_
      refine lv_aload_n hx hb dX0_orderByPenalties_22 rfl (lv_at hl 1 rfl) ?_
      refine va_get (D := D) (ci := 0) (v := .ref r4) (C := RX0) (T := TX0) (N := 12) hx hb hts hi0 hown hK hP 0 rfl rfl 3 (by decide) (hts (.fieldLink RX0 21 "PairedChannels$Reading" "penalties" "[I") (List.mem_of_getElem? (i := 4) (by decide +kernel))) (fun _ h9 => h9) rfl dX0_orderByPenalties_23 ?_
      refine lv_iload_n hx hb dX0_orderByPenalties_26 rfl (lv_at hl 0 rfl) ?_
      refine wa_iald hx hb hK hP 2 0 rfl rfl (t) rfl (by omega) (by decide) dX0_orderByPenalties_27 ?_
      refine gW_v (wr := [(r3, .inl (K 0, 4, .inl fb)), (r4, .inl (K 0, 4, .inl fp))]) (W2 := (fun (u : Unit) => [(r0, .inr (0, [.ref r1, .ref r2, .ref r3, .ref r4, .ref r5, .ref r6, .ref r7, .ref r8, .int (nI (t + 1)), .int (nI n), .int (nI P.length), .int ir])), (r3, .inl (K 0, 4, .inl fb)), (r4, .inl (K 0, 4, .inl fp)), (r7, .inl (K 0, 8, .inl (upd gb t (fb t)))), (r8, .inl (K 0, 8, .inl (upd gp t (fp t))))])) (va_runV (As := [.int (fb t), .int (fp t)]) (rest := []) ⟨hx, hb, hml, hown, hts⟩ ((c_X0_addGrown l D K r0 r1 r2 r3 r4 r5 r6 r7 r8 n (nI P.length) ir t gb gp (fb t) (fp t) (by first | assumption | omega)) _) (cwV 2 hts gX0_orderByPenalties_X0_addGrown rfl rfl rfl (by decide +kernel) ⟨Nat.le_of_ble_eq_true rfl, Nat.le_of_ble_eq_true rfl⟩) (gW_preV hE hS hK hP hD hA [0, 3, 4] rfl (by decide) 0 rfl rfl rfl) rfl rfl hl.1 rfl (lv_room (Nat.le_of_ble_eq_true rfl)) dX0_orderByPenalties_28 ⟨Nat.le_of_ble_eq_true rfl, Nat.le_of_ble_eq_true rfl⟩) hS hP hD hA [0, 3, 4] [1, 2] [2, 0, 1, 3, 4] rfl rfl (by decide) (by decide) (by decide) (fun _ => rfl) (fun u11 H locs h12 hP hD hS => ?_)
      have hP : va_P D vwCl [(r0, .inr (0, [.ref r1, .ref r2, .ref r3, .ref r4, .ref r5, .ref r6, .ref r7, .ref r8, .int (nI (t + 1)), .int (nI n), .int (nI P.length), .int ir])), (r3, .inl (K 0, 4, .inl fb)), (r4, .inl (K 0, 4, .inl fp)), (r7, .inl (K 0, 8, .inl (upd gb t (fb t)))), (r8, .inl (K 0, 8, .inl (upd gp t (fp t))))] _ := hP
      have hD : va_D A [(r0, .inr (0, [.ref r1, .ref r2, .ref r3, .ref r4, .ref r5, .ref r6, .ref r7, .ref r8, .int (nI (t + 1)), .int (nI n), .int (nI P.length), .int ir])), (r3, .inl (K 0, 4, .inl fb)), (r4, .inl (K 0, 4, .inl fp)), (r7, .inl (K 0, 8, .inl (upd gb t (fb t)))), (r8, .inl (K 0, 8, .inl (upd gp t (fp t))))] := hD
      refine lv_iinc (v := nI (t + 1)) (lv' := [(1, .int (nI (t + 1))), (0, .ref r0)]) hx hb dX0_orderByPenalties_31 hl (k := 0) rfl (nI_add t 1) (by decide) rfl (fun ls hl => ?_)
      refine lv_goto (tgt := 7) hx hb dX0_orderByPenalties_34 (by decide) ?_
      exact ih2 H locs ls ⟨(upd gb t (fb t)), (upd gp t (fp t)), (fun i hi => by by_cases e : i = t; subst e; exact ⟨pk_us, pk_us⟩; rw [pk_un e, pk_un e]; exact hh i (by omega)), hP, hD, hS, lv_sub hl [0, 1] rfl⟩
  · exact ⟨gb, gp, (fun i hi => absurd hi (Nat.not_lt_zero i)), hP, hD, hS, lv_sub hl [0, 1] rfl⟩

set_option maxHeartbeats 4000000 in
set_option maxRecDepth 100000 in
theorem c_X0_judge (l : Launch) (D : va_G) (K : Nat → ClassId) (r0 : Nat) (r1 : Nat) (r2 : Nat) (r3 : Nat) (r4 : Nat) (r5 : Nat) (r6 : Nat) (r7 : Nat) (r8 : Nat) (n : Nat) (ig : Int32) (ir : Int32) (h0 : Nat) (hv : Nat) (hs : Nat) (mask : Int32) (sf : Nat → Int32) (P : PL) (fb : Nat → Int32) (fm : Nat → Int32) (fi : Nat → Int32) (hn : okN n) (hm : okM mask n) (hsf : okS sf) (hP4 : P.length ≤ 4) (hfb : ∀ i, i < P.length → fb i = (atL P i).1) : MWv l yX0_judge wsX0_judge ({ frames := 4, cells := 0, slots := 0, locals := 80 } : Room) D (gTy K) [.ref r0, .ref h0] [(r0, .inr (0, [.ref r1, .ref r2, .ref r3, .ref r4, .ref r5, .ref r6, .ref r7, .ref r8, .int ig, .int (nI n), .int (nI P.length), .int ir])), (r3, .inl (K 0, 4, .inl fb)), (r5, .inl (K 0, 4, .inl fm)), (r6, .inl (K 1, 4, .inl fi)), (h0, .inr (2, [.ref hv, .ref hs, .int (nI n), .int mask])), (hs, .inl (K 0, 4, .inl sf))] (fun (u : (Nat → Int32) × (Nat → Int32)) => [(r0, .inr (0, [.ref r1, .ref r2, .ref r3, .ref r4, .ref r5, .ref r6, .ref r7, .ref r8, .int ig, .int (nI n), .int (nI P.length), .int (rrk n mask sf P P.length)])), (r3, .inl (K 0, 4, .inl fb)), (r5, .inl (K 0, 4, .inl u.1)), (r6, .inl (K 1, 4, .inl u.2)), (h0, .inr (2, [.ref hv, .ref hs, .int (nI n), .int mask])), (hs, .inl (K 0, 4, .inl sf))]) (fun (u : (Nat → Int32) × (Nat → Int32)) => ∀ i, i < P.length → u.1 i = msP n mask P i ∧ u.2 i = (if rgt n mask sf (msP n mask P i) then 1 else 0)) 0 0 := by
  refine g_ofW (Qc := fun A => va_Qv _ (gB D (gTy K) A _) A) (cc := cX0_judge) (maxL := 6) (ret := none) (own := RX0) (by decide) rfl rfl (Nat.le_of_ble_eq_true rfl) ?_
  intro pp ee s mm below meth cc A hfx hnm hK hP hD hE hS hA ls hl
  obtain ⟨hx, hb, hr, hml, hown, hts, hlk⟩ := hfx
  have hl : lv_has ls 6 [(0, .ref r0), (1, .ref h0)] := hl
  have hi0 : ∀ w ∈ u_ws RX0 TX0 12, w ∈ wsX0_judge := fun w h => List.mem_cons_of_mem _ (List.mem_append_left _ (List.mem_append_right _ (h)))
  have hb16 := Nat.le_trans (bdB_le mask n sf) hn.le.2
  refine lv_aload_n hx hb dX0_judge_0 rfl (lv_at hl 1 rfl) ?_
  refine gR_i (va_runV (As := []) (rest := []) ⟨hx, hb, hml, hown, hts⟩ (c_X2_bodyBits l D K h0 hv hs n mask sf (by first | assumption | omega) (by first | assumption | omega) (by first | assumption | omega)) (cwV 0 hts gX0_judge_X2_bodyBits rfl rfl rfl (by decide +kernel) ⟨Nat.le_of_ble_eq_true rfl, Nat.le_of_ble_eq_true rfl⟩) (gR_preV hE hS hK hP [4, 5] rfl 4 rfl rfl rfl) rfl rfl hl.1 rfl (lv_room (Nat.le_of_ble_eq_true rfl)) dX0_judge_1 ⟨Nat.le_of_ble_eq_true rfl, Nat.le_of_ble_eq_true rfl⟩) hS hP (fun rv2 H locs h1 hP hS => ?_)
  have h1 : rv2 = nI (bdB mask n sf) := h1
  subst h1
  refine lv_istore_n (lv' := [(2, .int (nI (bdB mask n sf))), (0, .ref r0), (1, .ref h0)]) hx hb dX0_judge_4 rfl hl (by decide) rfl (fun ls hl => ?_)
  refine lv_aload_n hx hb dX0_judge_5 rfl (lv_at hl 2 rfl) ?_
  refine gR_i (va_runV (As := []) (rest := []) ⟨hx, hb, hml, hown, hts⟩ (c_X2_checkBits l D K h0 hv hs n mask sf (by first | assumption | omega) (by first | assumption | omega) (by first | assumption | omega)) (cwV 0 hts gX0_judge_X2_checkBits rfl rfl rfl (by decide +kernel) ⟨Nat.le_of_ble_eq_true rfl, Nat.le_of_ble_eq_true rfl⟩) (gR_preV hE hS hK hP [4, 5] rfl 4 rfl rfl rfl) rfl rfl hl.1 rfl (lv_room (Nat.le_of_ble_eq_true rfl)) dX0_judge_6 ⟨Nat.le_of_ble_eq_true rfl, Nat.le_of_ble_eq_true rfl⟩) hS hP (fun rv4 H locs h3 hP hS => ?_)
  have h3 : rv4 = nI (ckB mask n sf) := h3
  subst h3
  refine lv_istore_n (lv' := [(3, .int (nI (ckB mask n sf))), (2, .int (nI (bdB mask n sf))), (0, .ref r0), (1, .ref h0)]) hx hb dX0_judge_9 rfl hl (by decide) rfl (fun ls hl => ?_)
  refine lv_aload_n hx hb dX0_judge_10 rfl (lv_at hl 2 rfl) ?_
  refine lv_iconst (v := (-1)) hx hb dX0_judge_11 (by decide) ?_
  refine va_put (D := D) (ci := 0) (v := .int (-1)) (ty := .int) (C := RX0) (T := TX0) (N := 12) hx hb hts hi0 tyX0 tyX0_ok nmX0 hown hK hP hD hS 0 rfl rfl 11 (by decide) (hts (.fieldLink RX0 69 "PairedChannels$Reading" "rankRead" "I") (List.mem_of_getElem? (i := 1) (by decide +kernel))) (fun _ h9 => h9) rfl (by decide +kernel) (rfl) (rfl) (Nat.le_of_ble_eq_true rfl) dX0_judge_12 (fun H locs hP hD hS => ?_)
  have hP : va_P D vwCl [(r0, .inr (0, [.ref r1, .ref r2, .ref r3, .ref r4, .ref r5, .ref r6, .ref r7, .ref r8, .int ig, .int (nI n), .int (nI P.length), .int (-1)])), (r3, .inl (K 0, 4, .inl fb)), (r5, .inl (K 0, 4, .inl fm)), (r6, .inl (K 1, 4, .inl fi)), (h0, .inr (2, [.ref hv, .ref hs, .int (nI n), .int mask])), (hs, .inl (K 0, 4, .inl sf))] _ := hP
  have hD : va_D A [(r0, .inr (0, [.ref r1, .ref r2, .ref r3, .ref r4, .ref r5, .ref r6, .ref r7, .ref r8, .int ig, .int (nI n), .int (nI P.length), .int (-1)])), (r3, .inl (K 0, 4, .inl fb)), (r5, .inl (K 0, 4, .inl fm)), (r6, .inl (K 1, 4, .inl fi)), (h0, .inr (2, [.ref hv, .ref hs, .int (nI n), .int mask])), (hs, .inl (K 0, 4, .inl sf))] := hD
  refine lv_iconst (v := 0) hx hb dX0_judge_15 (by decide) ?_
  refine lv_istore (lv' := [(4, .int 0), (3, .int (nI (ckB mask n sf))), (2, .int (nI (bdB mask n sf))), (0, .ref r0), (1, .ref h0)]) hx hb dX0_judge_16 hl (by decide) rfl (fun ls hl => ?_)
  have e5 : (-1) = (rrk n mask sf P 0) := rfl
  rw [e5] at hP hD
  have hP : va_P D vwCl [(r0, .inr (0, [.ref r1, .ref r2, .ref r3, .ref r4, .ref r5, .ref r6, .ref r7, .ref r8, .int ig, .int (nI n), .int (nI P.length), .int (rrk n mask sf P 0)])), (r3, .inl (K 0, 4, .inl fb)), (r5, .inl (K 0, 4, .inl fm)), (r6, .inl (K 1, 4, .inl fi)), (h0, .inr (2, [.ref hv, .ref hs, .int (nI n), .int mask])), (hs, .inl (K 0, 4, .inl sf))] _ := hP
  have hD : va_D A [(r0, .inr (0, [.ref r1, .ref r2, .ref r3, .ref r4, .ref r5, .ref r6, .ref r7, .ref r8, .int ig, .int (nI n), .int (nI P.length), .int (rrk n mask sf P 0)])), (r3, .inl (K 0, 4, .inl fb)), (r5, .inl (K 0, 4, .inl fm)), (r6, .inl (K 1, 4, .inl fi)), (h0, .inr (2, [.ref hv, .ref hs, .int (nI n), .int mask])), (hs, .inl (K 0, 4, .inl sf))] := hD
  refine g_loopW (st := []) (N := P.length) (fun t H locs ls => ∃ fm : Nat → Int32, ∃ fi : Nat → Int32, (∀ i, i < t → fm i = msP n mask P i ∧ fi i = (if rgt n mask sf (msP n mask P i) then 1 else 0)) ∧ va_P D vwCl [(r0, .inr (0, [.ref r1, .ref r2, .ref r3, .ref r4, .ref r5, .ref r6, .ref r7, .ref r8, .int ig, .int (nI n), .int (nI P.length), .int (rrk n mask sf P t)])), (r3, .inl (K 0, 4, .inl fb)), (r5, .inl (K 0, 4, .inl fm)), (r6, .inl (K 1, 4, .inl fi)), (h0, .inr (2, [.ref hv, .ref hs, .int (nI n), .int mask])), (hs, .inl (K 0, 4, .inl sf))] H ∧ va_D A [(r0, .inr (0, [.ref r1, .ref r2, .ref r3, .ref r4, .ref r5, .ref r6, .ref r7, .ref r8, .int ig, .int (nI n), .int (nI P.length), .int (rrk n mask sf P t)])), (r3, .inl (K 0, 4, .inl fb)), (r5, .inl (K 0, 4, .inl fm)), (r6, .inl (K 1, 4, .inl fi)), (h0, .inr (2, [.ref hv, .ref hs, .int (nI n), .int mask])), (hs, .inl (K 0, 4, .inl sf))] ∧ va_S A s.heap H locs ∧ lv_has ls 6 [(4, .int (nI t)), (3, .int (nI (ckB mask n sf))), (2, .int (nI (bdB mask n sf))), (0, .ref r0), (1, .ref h0)]) 0 (Nat.zero_le _) ?_ ?_ ?_
  · intro H locs ls hI
    obtain ⟨fm, fi, hh, hP, hD, hS, hl⟩ := hI
    refine lv_iload hx hb dX0_judge_18 (lv_at hl 0 rfl) ?_
    refine lv_aload_n hx hb dX0_judge_20 rfl (lv_at hl 3 rfl) ?_
    refine va_get (D := D) (ci := 0) (v := .int (nI P.length)) (C := RX0) (T := TX0) (N := 12) hx hb hts hi0 hown hK hP 0 rfl rfl 10 (by decide) (hts (.fieldLink RX0 47 "PairedChannels$Reading" "paths" "I") (List.mem_of_getElem? (i := 2) (by decide +kernel))) (fun _ h9 => h9) rfl dX0_judge_21 ?_
    refine lv_icmp_ge (tgt := 111) hx hb dX0_judge_24 (by decide) (fun c7 => ?_) (fun c7 => ?_)
    · skip
      have c7 : P.length ≤ P.length := (nI_leI (a := P.length) (b := P.length) (by omega) (by omega)).mp c7
      exact gW_vret (fm, fi) hx hb hr hlk hK hP hD hS (hh) dX0_judge_111
    · skip
      have c7 : ¬ P.length ≤ P.length := fun h9 => c7 ((nI_leI (a := P.length) (b := P.length) (by omega) (by omega)).mpr h9)
      omega
  · intro t ht ih6 H locs ls hI
    obtain ⟨fm, fi, hh, hP, hD, hS, hl⟩ := hI
    refine lv_iload hx hb dX0_judge_18 (lv_at hl 0 rfl) ?_
    refine lv_aload_n hx hb dX0_judge_20 rfl (lv_at hl 3 rfl) ?_
    refine va_get (D := D) (ci := 0) (v := .int (nI P.length)) (C := RX0) (T := TX0) (N := 12) hx hb hts hi0 hown hK hP 0 rfl rfl 10 (by decide) (hts (.fieldLink RX0 47 "PairedChannels$Reading" "paths" "I") (List.mem_of_getElem? (i := 2) (by decide +kernel))) (fun _ h9 => h9) rfl dX0_judge_21 ?_
    refine lv_icmp_ge (tgt := 111) hx hb dX0_judge_24 (by decide) (fun c8 => ?_) (fun c8 => ?_)
    · skip
      have c8 : P.length ≤ t := (nI_leI (a := P.length) (b := t) (by omega) (by omega)).mp c8
      omega
    · skip
      have c8 : ¬ P.length ≤ t := fun h9 => c8 ((nI_leI (a := P.length) (b := t) (by omega) (by omega)).mpr h9)
      refine lv_iload hx hb dX0_judge_27 (lv_at hl 0 rfl) ?_
      refine lv_iconst (v := 4) hx hb dX0_judge_29 (by decide) ?_
      refine lv_icmp_ge (tgt := 111) hx hb dX0_judge_30 (by decide) (fun c9 => ?_) (fun c9 => ?_)
      · skip
        have c9 : 4 ≤ t := (nI_leI (a := 4) (b := t) (by omega) (by omega)).mp c9
        omega
      · skip
        have c9 : ¬ 4 ≤ t := fun h9 => c9 ((nI_leI (a := 4) (b := t) (by omega) (by omega)).mpr h9)
        refine lv_aload_n hx hb dX0_judge_33 rfl (lv_at hl 4 rfl) ?_
        refine lv_aload_n hx hb dX0_judge_34 rfl (lv_at hl 3 rfl) ?_
        refine va_get (D := D) (ci := 0) (v := .ref r3) (C := RX0) (T := TX0) (N := 12) hx hb hts hi0 hown hK hP 0 rfl rfl 2 (by decide) (hts (.fieldLink RX0 18 "PairedChannels$Reading" "bits" "[I") (List.mem_of_getElem? (i := 3) (by decide +kernel))) (fun _ h9 => h9) rfl dX0_judge_35 ?_
        refine lv_iload hx hb dX0_judge_38 (lv_at hl 0 rfl) ?_
        refine wa_iald hx hb hK hP 1 0 rfl rfl (t) rfl (by omega) (by decide) dX0_judge_40 ?_
        refine lv_eqi ((atL P t).1) (hfb t ht) ?_
        refine gR_i (va_runV (As := [.int ((atL P t).1)]) (rest := []) ⟨hx, hb, hml, hown, hts⟩ (c_X2_messageOf l D K h0 hv hs n mask ((atL P t).1) (by first | assumption | omega)) (cwV 1 hts gX0_judge_X2_messageOf rfl rfl rfl (by decide +kernel) ⟨Nat.le_of_ble_eq_true rfl, Nat.le_of_ble_eq_true rfl⟩) (gR_preV hE hS hK hP [4] rfl 4 rfl rfl rfl) rfl rfl hl.1 rfl (lv_room (Nat.le_of_ble_eq_true rfl)) dX0_judge_41 ⟨Nat.le_of_ble_eq_true rfl, Nat.le_of_ble_eq_true rfl⟩) hS hP (fun rv11 H locs h10 hP hS => ?_)
        have h10 : rv11 = mso mask ((atL P t).1) n := h10
        subst h10
        refine lv_eqi (msP n mask P t) (rfl) ?_
        refine lv_istore (lv' := [(5, .int (msP n mask P t)), (4, .int (nI t)), (3, .int (nI (ckB mask n sf))), (2, .int (nI (bdB mask n sf))), (0, .ref r0), (1, .ref h0)]) hx hb dX0_judge_44 hl (by decide) rfl (fun ls hl => ?_)
        refine lv_aload_n hx hb dX0_judge_46 rfl (lv_at hl 4 rfl) ?_
        refine va_get (D := D) (ci := 0) (v := .ref r5) (C := RX0) (T := TX0) (N := 12) hx hb hts hi0 hown hK hP 0 rfl rfl 4 (by decide) (hts (.fieldLink RX0 24 "PairedChannels$Reading" "messages" "[I") (List.mem_of_getElem? (i := 4) (by decide +kernel))) (fun _ h9 => h9) rfl dX0_judge_47 ?_
        refine lv_iload hx hb dX0_judge_50 (lv_at hl 1 rfl) ?_
        refine lv_iload hx hb dX0_judge_52 (lv_at hl 0 rfl) ?_
        refine wa_iast (x := msP n mask P t) hx hb hK hP hD hS 2 0 rfl rfl (t) rfl (by omega) (by decide) dX0_judge_54 (fun H locs hP hD hS => ?_)
        have hP : va_P D vwCl [(r0, .inr (0, [.ref r1, .ref r2, .ref r3, .ref r4, .ref r5, .ref r6, .ref r7, .ref r8, .int ig, .int (nI n), .int (nI P.length), .int (rrk n mask sf P t)])), (r3, .inl (K 0, 4, .inl fb)), (r5, .inl (K 0, 4, .inl (upd fm t (msP n mask P t)))), (r6, .inl (K 1, 4, .inl fi)), (h0, .inr (2, [.ref hv, .ref hs, .int (nI n), .int mask])), (hs, .inl (K 0, 4, .inl sf))] _ := hP
        have hD : va_D A [(r0, .inr (0, [.ref r1, .ref r2, .ref r3, .ref r4, .ref r5, .ref r6, .ref r7, .ref r8, .int ig, .int (nI n), .int (nI P.length), .int (rrk n mask sf P t)])), (r3, .inl (K 0, 4, .inl fb)), (r5, .inl (K 0, 4, .inl (upd fm t (msP n mask P t)))), (r6, .inl (K 1, 4, .inl fi)), (h0, .inr (2, [.ref hv, .ref hs, .int (nI n), .int mask])), (hs, .inl (K 0, 4, .inl sf))] := hD
        refine lv_aload_n hx hb dX0_judge_55 rfl (lv_at hl 4 rfl) ?_
        refine va_get (D := D) (ci := 0) (v := .ref r6) (C := RX0) (T := TX0) (N := 12) hx hb hts hi0 hown hK hP 0 rfl rfl 5 (by decide) (hts (.fieldLink RX0 27 "PairedChannels$Reading" "isRight" "[Z") (List.mem_of_getElem? (i := 5) (by decide +kernel))) (fun _ h9 => h9) rfl dX0_judge_56 ?_
        refine lv_iload hx hb dX0_judge_59 (lv_at hl 1 rfl) ?_
        refine lv_iload hx hb dX0_judge_61 (lv_at hl 0 rfl) ?_
        refine lv_iload_n hx hb dX0_judge_63 rfl (lv_at hl 3 rfl) ?_
        refine lv_ishr hx hb dX0_judge_64 ?_
        refine lv_iload hx hb dX0_judge_65 (lv_at hl 0 rfl) ?_
        refine lv_iload_n hx hb dX0_judge_67 rfl (lv_at hl 3 rfl) ?_
        refine lv_iload_n hx hb dX0_judge_68 rfl (lv_at hl 2 rfl) ?_
        refine gR_i (va_runSN (host := RX3) (As := [.int (msP n mask P t), .int (nI (bdB mask n sf)), .int (nI (ckB mask n sf))]) (rest := [.int ((msP n mask P t) >>> ((nI (bdB mask n sf)) &&& 31)), .int (nI t), .ref r6]) ⟨hx, hb, hml, hown, hts⟩ (c_X3_checkNumber l D K (msP n mask P t) (bdB mask n sf) (ckB mask n sf) (by first | assumption | omega)) ⟨va_cnB 3 hts gX0_judge_X3_checkNumber_n83 rfl rfl rfl (hE.1 (RX0, 83, yX3_checkNumber) (List.mem_of_getElem? (i := 3) rfl)) (hts (.initialized RX3) (List.mem_of_getElem? (i := 43) (by decide +kernel))) (by decide +kernel) ⟨Nat.le_of_ble_eq_true rfl, Nat.le_of_ble_eq_true rfl⟩, (hts (.static yX3_checkNumber) (List.mem_of_getElem? (i := 42) (by decide +kernel))), trivial⟩ (gR_pre hE hS hK hP [] rfl) rfl rfl hl.1 rfl (lv_room (Nat.le_of_ble_eq_true rfl)) dX0_judge_69 ⟨Nat.le_of_ble_eq_true rfl, Nat.le_of_ble_eq_true rfl⟩) hS hP (fun rv13 H locs h12 hP hS => ?_)
        have h12 : rv13 = chk (msP n mask P t) (bdB mask n sf) (ckB mask n sf) := h12
        subst h12
        refine g_cut (F0 mm 80 ls [.int (if rgt n mask sf (msP n mask P t) then 1 else 0), .int (nI t), .ref r6]) (fun hJ => ?_) ?_
        · refine lv_icmp_ne (tgt := 79) hx hb dX0_judge_72 (by decide) (fun c14 => ?_) (fun c14 => ?_)
          · skip
            refine lv_iconst (v := 0) hx hb dX0_judge_79 (by decide) ?_
            refine lv_eqi ((if rgt n mask sf (msP n mask P t) then 1 else 0)) (if_neg c14).symm ?_
            exact hJ
          · skip
            refine lv_iconst (v := 1) hx hb dX0_judge_75 (by decide) ?_
            refine lv_goto (tgt := 80) hx hb dX0_judge_76 (by decide) ?_
            refine lv_eqi ((if rgt n mask sf (msP n mask P t) then 1 else 0)) (if_pos c14).symm ?_
            exact hJ
        · skip
          refine wa_zast (x := (if rgt n mask sf (msP n mask P t) then 1 else 0)) hx hb hK hP hD hS 3 1 rfl rfl (t) rfl (by omega) (by decide) (vp_b _) dX0_judge_80 (fun H locs hP hD hS => ?_)
          have hP : va_P D vwCl [(r0, .inr (0, [.ref r1, .ref r2, .ref r3, .ref r4, .ref r5, .ref r6, .ref r7, .ref r8, .int ig, .int (nI n), .int (nI P.length), .int (rrk n mask sf P t)])), (r3, .inl (K 0, 4, .inl fb)), (r5, .inl (K 0, 4, .inl (upd fm t (msP n mask P t)))), (r6, .inl (K 1, 4, .inl (upd fi t (if rgt n mask sf (msP n mask P t) then 1 else 0)))), (h0, .inr (2, [.ref hv, .ref hs, .int (nI n), .int mask])), (hs, .inl (K 0, 4, .inl sf))] _ := hP
          have hD : va_D A [(r0, .inr (0, [.ref r1, .ref r2, .ref r3, .ref r4, .ref r5, .ref r6, .ref r7, .ref r8, .int ig, .int (nI n), .int (nI P.length), .int (rrk n mask sf P t)])), (r3, .inl (K 0, 4, .inl fb)), (r5, .inl (K 0, 4, .inl (upd fm t (msP n mask P t)))), (r6, .inl (K 1, 4, .inl (upd fi t (if rgt n mask sf (msP n mask P t) then 1 else 0)))), (h0, .inr (2, [.ref hv, .ref hs, .int (nI n), .int mask])), (hs, .inl (K 0, 4, .inl sf))] := hD
          refine lv_aload_n hx hb dX0_judge_81 rfl (lv_at hl 4 rfl) ?_
          refine va_get (D := D) (ci := 0) (v := .ref r6) (C := RX0) (T := TX0) (N := 12) hx hb hts hi0 hown hK hP 0 rfl rfl 5 (by decide) (hts (.fieldLink RX0 27 "PairedChannels$Reading" "isRight" "[Z") (List.mem_of_getElem? (i := 5) (by decide +kernel))) (fun _ h9 => h9) rfl dX0_judge_82 ?_
          refine lv_iload hx hb dX0_judge_85 (lv_at hl 1 rfl) ?_
          refine wa_zald hx hb hK hP 3 1 rfl rfl (t) rfl (by omega) (by decide) dX0_judge_87 ?_
          refine lv_eqi ((if rgt n mask sf (msP n mask P t) then 1 else 0)) (pk_us) ?_
          refine lv_if_eq (tgt := 105) hx hb dX0_judge_88 (by decide) (fun c88 => ?_) (fun c88 => ?_)
          · skip
            have c88 : ¬ (rgt n mask sf (msP n mask P t)) := b_eq0 c88
            refine lv_iinc (v := nI (t + 1)) (lv' := [(4, .int (nI (t + 1))), (5, .int (msP n mask P t)), (3, .int (nI (ckB mask n sf))), (2, .int (nI (bdB mask n sf))), (0, .ref r0), (1, .ref h0)]) hx hb dX0_judge_105 hl (k := 1) rfl (nI_add t 1) (by decide) rfl (fun ls hl => ?_)
            refine lv_goto (tgt := 18) hx hb dX0_judge_108 (by decide) ?_
            have e9 : (rrk n mask sf P t) = (rrk n mask sf P (t + 1)) := by rw [rrk_s (by omega)]; first | (first | exact (g_ip ⟨c88, c96⟩ rfl) | exact (g_tp ⟨c88, c96⟩ rfl) | exact (g_ap ⟨c88, c96⟩ rfl)) | (first | exact (g_in (fun h => c96 h.2) rfl) | exact (g_tn (fun h => c96 h.2) rfl) | exact (g_an (fun h => c96 h.2) rfl)) | (first | exact (g_in (fun h => c88 h.1) rfl) | exact (g_tn (fun h => c88 h.1) rfl) | exact (g_an (fun h => c88 h.1) rfl))
            rw [e9] at hP hD
            exact ih6 H locs ls ⟨(upd fm t (msP n mask P t)), (upd fi t (if rgt n mask sf (msP n mask P t) then 1 else 0)), (fun i hi => by by_cases e : i = t; subst e; exact ⟨pk_us, pk_us⟩; rw [pk_un e, pk_un e]; exact hh i (by omega)), hP, hD, hS, lv_sub hl [0, 2, 3, 4, 5] rfl⟩
          · skip
            have c88 : rgt n mask sf (msP n mask P t) := b_ne0 c88
            refine lv_aload_n hx hb dX0_judge_91 rfl (lv_at hl 4 rfl) ?_
            refine va_get (D := D) (ci := 0) (v := .int (rrk n mask sf P t)) (C := RX0) (T := TX0) (N := 12) hx hb hts hi0 hown hK hP 0 rfl rfl 11 (by decide) (hts (.fieldLink RX0 69 "PairedChannels$Reading" "rankRead" "I") (List.mem_of_getElem? (i := 1) (by decide +kernel))) (fun _ h9 => h9) rfl dX0_judge_92 ?_
            refine lv_iconst (v := (-1)) hx hb dX0_judge_95 (by decide) ?_
            refine lv_icmp_ne (tgt := 105) hx hb dX0_judge_96 (by decide) (fun c96 => ?_) (fun c96 => ?_)
            · skip
              refine lv_iinc (v := nI (t + 1)) (lv' := [(4, .int (nI (t + 1))), (5, .int (msP n mask P t)), (3, .int (nI (ckB mask n sf))), (2, .int (nI (bdB mask n sf))), (0, .ref r0), (1, .ref h0)]) hx hb dX0_judge_105 hl (k := 1) rfl (nI_add t 1) (by decide) rfl (fun ls hl => ?_)
              refine lv_goto (tgt := 18) hx hb dX0_judge_108 (by decide) ?_
              have e9 : (rrk n mask sf P t) = (rrk n mask sf P (t + 1)) := by rw [rrk_s (by omega)]; first | (first | exact (g_ip ⟨c88, c96⟩ rfl) | exact (g_tp ⟨c88, c96⟩ rfl) | exact (g_ap ⟨c88, c96⟩ rfl)) | (first | exact (g_in (fun h => c96 h.2) rfl) | exact (g_tn (fun h => c96 h.2) rfl) | exact (g_an (fun h => c96 h.2) rfl)) | (first | exact (g_in (fun h => c88 h.1) rfl) | exact (g_tn (fun h => c88 h.1) rfl) | exact (g_an (fun h => c88 h.1) rfl))
              rw [e9] at hP hD
              exact ih6 H locs ls ⟨(upd fm t (msP n mask P t)), (upd fi t (if rgt n mask sf (msP n mask P t) then 1 else 0)), (fun i hi => by by_cases e : i = t; subst e; exact ⟨pk_us, pk_us⟩; rw [pk_un e, pk_un e]; exact hh i (by omega)), hP, hD, hS, lv_sub hl [0, 2, 3, 4, 5] rfl⟩
            · skip
              refine lv_aload_n hx hb dX0_judge_99 rfl (lv_at hl 4 rfl) ?_
              refine lv_iload hx hb dX0_judge_100 (lv_at hl 1 rfl) ?_
              refine va_put (D := D) (ci := 0) (v := .int (nI t)) (ty := .int) (C := RX0) (T := TX0) (N := 12) hx hb hts hi0 tyX0 tyX0_ok nmX0 hown hK hP hD hS 0 rfl rfl 11 (by decide) (hts (.fieldLink RX0 69 "PairedChannels$Reading" "rankRead" "I") (List.mem_of_getElem? (i := 1) (by decide +kernel))) (fun _ h9 => h9) rfl (by decide +kernel) (rfl) (rfl) (Nat.le_of_ble_eq_true rfl) dX0_judge_102 (fun H locs hP hD hS => ?_)
              have hP : va_P D vwCl [(r0, .inr (0, [.ref r1, .ref r2, .ref r3, .ref r4, .ref r5, .ref r6, .ref r7, .ref r8, .int ig, .int (nI n), .int (nI P.length), .int (nI t)])), (r3, .inl (K 0, 4, .inl fb)), (r5, .inl (K 0, 4, .inl (upd fm t (msP n mask P t)))), (r6, .inl (K 1, 4, .inl (upd fi t (if rgt n mask sf (msP n mask P t) then 1 else 0)))), (h0, .inr (2, [.ref hv, .ref hs, .int (nI n), .int mask])), (hs, .inl (K 0, 4, .inl sf))] _ := hP
              have hD : va_D A [(r0, .inr (0, [.ref r1, .ref r2, .ref r3, .ref r4, .ref r5, .ref r6, .ref r7, .ref r8, .int ig, .int (nI n), .int (nI P.length), .int (nI t)])), (r3, .inl (K 0, 4, .inl fb)), (r5, .inl (K 0, 4, .inl (upd fm t (msP n mask P t)))), (r6, .inl (K 1, 4, .inl (upd fi t (if rgt n mask sf (msP n mask P t) then 1 else 0)))), (h0, .inr (2, [.ref hv, .ref hs, .int (nI n), .int mask])), (hs, .inl (K 0, 4, .inl sf))] := hD
              refine lv_iinc (v := nI (t + 1)) (lv' := [(4, .int (nI (t + 1))), (5, .int (msP n mask P t)), (3, .int (nI (ckB mask n sf))), (2, .int (nI (bdB mask n sf))), (0, .ref r0), (1, .ref h0)]) hx hb dX0_judge_105 hl (k := 1) rfl (nI_add t 1) (by decide) rfl (fun ls hl => ?_)
              refine lv_goto (tgt := 18) hx hb dX0_judge_108 (by decide) ?_
              have e9 : (nI t) = (rrk n mask sf P (t + 1)) := by rw [rrk_s (by omega)]; first | (first | exact (g_ip ⟨c88, c96⟩ rfl) | exact (g_tp ⟨c88, c96⟩ rfl) | exact (g_ap ⟨c88, c96⟩ rfl)) | (first | exact (g_in (fun h => c96 h.2) rfl) | exact (g_tn (fun h => c96 h.2) rfl) | exact (g_an (fun h => c96 h.2) rfl)) | (first | exact (g_in (fun h => c88 h.1) rfl) | exact (g_tn (fun h => c88 h.1) rfl) | exact (g_an (fun h => c88 h.1) rfl))
              rw [e9] at hP hD
              exact ih6 H locs ls ⟨(upd fm t (msP n mask P t)), (upd fi t (if rgt n mask sf (msP n mask P t) then 1 else 0)), (fun i hi => by by_cases e : i = t; subst e; exact ⟨pk_us, pk_us⟩; rw [pk_un e, pk_un e]; exact hh i (by omega)), hP, hD, hS, lv_sub hl [0, 2, 3, 4, 5] rfl⟩
  · exact ⟨fm, fi, (fun i hi => absurd hi (Nat.not_lt_zero i)), hP, hD, hS, lv_sub hl [0, 1, 2, 3, 4] rfl⟩
