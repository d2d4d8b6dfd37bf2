set_option maxHeartbeats 4000000 in
set_option maxRecDepth 100000 in
theorem c_X4_better (l : Launch) (D : va_G) (K : Nat → ClassId) (m0 : Nat) (m1 : Nat) (m2 : Nat) (m3 : Nat) (m4 : Nat) (m5 : Nat) (m6 : Nat) (m7 : Nat) (m8 : Nat) (m9 : Nat) (m10 : Nat) (th : Int32) (sy : Nat) (ly : Nat) (py : Nat) (ay : Nat) (iw : Bool) (ty : Nat) (hy : Int64) (i : Nat) (gp : Nat → Int32) (hi : i < py) (hpy : py ≤ 8) : MRi l yX4_better wsX4_better ({ frames := 0, cells := 0, slots := 0, locals := 0 } : Room) D (gTy K) [.ref m0, .int (nI i)] [(m0, .inr (4, [.int th, .ref m1, .ref m2, .ref m3, .int (nI sy), .ref m4, .int (nI ly), .ref m5, .ref m6, .int (nI py), .ref m7, .ref m8, .ref m9, .int (nI ay), .int (if iw = true then 1 else 0), .ref m10, .int (nI ty), .long hy])), (m8, .inl (K 0, 8, .inl gp))] (fun r => r = nI (rkF gp i py)) := by
  refine g_ofR (cc := cX4_better) (maxL := 4) (ret := (some .int)) (own := RX4) (by decide) rfl rfl (Nat.le_of_ble_eq_true rfl) ?_
  intro pp ee s mm below meth cc hfx hK hP hE hS ls hl
  obtain ⟨hx, hb, hr, hml, hown, hts, hlk⟩ := hfx
  have hl : lv_has ls 4 [(0, .ref m0), (1, .int (nI i))] := hl
  have hi4 : ∀ w ∈ u_ws RX4 TX4 18, w ∈ wsX4_better := fun w h => List.mem_cons_of_mem _ (List.mem_append_right _ (h))
  refine lv_iconst (v := 0) hx hb dX4_better_0 (by decide) ?_
  refine lv_istore_n (lv' := [(2, .int 0), (0, .ref m0), (1, .int (nI i))]) hx hb dX4_better_1 rfl hl (by decide) rfl (fun ls hl => ?_)
  refine lv_iconst (v := 0) hx hb dX4_better_2 (by decide) ?_
  refine lv_istore_n (lv' := [(3, .int 0), (2, .int 0), (0, .ref m0), (1, .int (nI i))]) hx hb dX4_better_3 rfl hl (by decide) rfl (fun ls hl => ?_)
  refine g_loopW (st := []) (N := py) (fun t H locs ls => va_P D vwCl [(m0, .inr (4, [.int th, .ref m1, .ref m2, .ref m3, .int (nI sy), .ref m4, .int (nI ly), .ref m5, .ref m6, .int (nI py), .ref m7, .ref m8, .ref m9, .int (nI ay), .int (if iw = true then 1 else 0), .ref m10, .int (nI ty), .long hy])), (m8, .inl (K 0, 8, .inl gp))] H ∧ va_S gNo s.heap H locs ∧ lv_has ls 4 [(3, .int (nI t)), (2, .int (nI (rkF gp i t))), (0, .ref m0), (1, .int (nI i))]) 0 (Nat.zero_le _) ?_ ?_ ?_
  · intro H locs ls hI
    obtain ⟨hP, hS, hl⟩ := hI
    refine lv_iload_n hx hb dX4_better_4 rfl (lv_at hl 0 rfl) ?_
    refine lv_aload_n hx hb dX4_better_5 rfl (lv_at hl 2 rfl) ?_
    refine va_get (D := D) (ci := 4) (v := .int (nI py)) (C := RX4) (T := TX4) (N := 18) hx hb hts hi4 hown hK hP 0 rfl rfl 9 (by decide) (hts (.fieldLink RX4 99 "PairedChannelsModel" "pathMany" "I") (List.mem_of_getElem? (i := 1) (by decide +kernel))) (fun _ h9 => h9) rfl dX4_better_6 ?_
    refine lv_icmp_ge (tgt := 61) hx hb dX4_better_9 (by decide) (fun c2 => ?_) (fun c2 => ?_)
    · skip
      have c2 : py ≤ py := (nI_leI (a := py) (b := py) (by omega) (by omega)).mp c2
      refine lv_iload_n hx hb dX4_better_61 rfl (lv_at hl 1 rfl) ?_
      exact gR_iret (v := nI (rkF gp i py)) hx hb hr hlk (rfl) hS (rfl) dX4_better_62
    · skip
      have c2 : ¬ py ≤ py := fun h9 => c2 ((nI_leI (a := py) (b := py) (by omega) (by omega)).mpr h9)
      omega
  · intro t ht ih1 H locs ls hI
    obtain ⟨hP, hS, hl⟩ := hI
    have hrl := rkF_le gp i t
    refine lv_iload_n hx hb dX4_better_4 rfl (lv_at hl 0 rfl) ?_
    refine lv_aload_n hx hb dX4_better_5 rfl (lv_at hl 2 rfl) ?_
    refine va_get (D := D) (ci := 4) (v := .int (nI py)) (C := RX4) (T := TX4) (N := 18) hx hb hts hi4 hown hK hP 0 rfl rfl 9 (by decide) (hts (.fieldLink RX4 99 "PairedChannelsModel" "pathMany" "I") (List.mem_of_getElem? (i := 1) (by decide +kernel))) (fun _ h9 => h9) rfl dX4_better_6 ?_
    refine lv_icmp_ge (tgt := 61) hx hb dX4_better_9 (by decide) (fun c3 => ?_) (fun c3 => ?_)
    · skip
      have c3 : py ≤ t := (nI_leI (a := py) (b := t) (by omega) (by omega)).mp c3
      omega
    · skip
      have c3 : ¬ py ≤ t := fun h9 => c3 ((nI_leI (a := py) (b := t) (by omega) (by omega)).mpr h9)
      refine lv_iload_n hx hb dX4_better_12 rfl (lv_at hl 1 rfl) ?_
      refine lv_aload_n hx hb dX4_better_13 rfl (lv_at hl 2 rfl) ?_
      refine va_get (D := D) (ci := 4) (v := .ref m8) (C := RX4) (T := TX4) (N := 18) hx hb hts hi4 hown hK hP 0 rfl rfl 11 (by decide) (hts (.fieldLink RX4 31 "PairedChannelsModel" "newPenalties" "[I") (List.mem_of_getElem? (i := 2) (by decide +kernel))) (fun _ h9 => h9) rfl dX4_better_14 ?_
      refine lv_iload_n hx hb dX4_better_17 rfl (lv_at hl 0 rfl) ?_
      refine wa_iald hx hb hK hP 1 0 rfl rfl (t) rfl (by omega) (by decide) dX4_better_18 ?_
      refine lv_aload_n hx hb dX4_better_19 rfl (lv_at hl 2 rfl) ?_
      refine va_get (D := D) (ci := 4) (v := .ref m8) (C := RX4) (T := TX4) (N := 18) hx hb hts hi4 hown hK hP 0 rfl rfl 11 (by decide) (hts (.fieldLink RX4 31 "PairedChannelsModel" "newPenalties" "[I") (List.mem_of_getElem? (i := 2) (by decide +kernel))) (fun _ h9 => h9) rfl dX4_better_20 ?_
      refine lv_iload_n hx hb dX4_better_23 rfl (lv_at hl 3 rfl) ?_
      refine wa_iald hx hb hK hP 1 0 rfl rfl (i) rfl (by omega) (by decide) dX4_better_24 ?_
      refine lv_icmp_lt (tgt := 48) hx hb dX4_better_25 (by decide) (fun c25 => ?_) (fun c25 => ?_)
      · skip
        refine lv_iconst (v := 1) hx hb dX4_better_48 (by decide) ?_
        refine lv_goto (tgt := 53) hx hb dX4_better_49 (by decide) ?_
        refine lv_iadd hx hb dX4_better_53 ?_
        refine lv_eqi (nI (rkF gp i t + 1)) (nI_add (rkF gp i t) 1) ?_
        refine lv_istore_n (lv' := [(2, .int (nI (rkF gp i t + 1))), (3, .int (nI t)), (0, .ref m0), (1, .int (nI i))]) hx hb dX4_better_54 rfl hl (by decide) rfl (fun ls hl => ?_)
        refine lv_iinc (v := nI (t + 1)) (lv' := [(3, .int (nI (t + 1))), (2, .int (nI (rkF gp i t + 1))), (0, .ref m0), (1, .int (nI i))]) hx hb dX4_better_55 hl (k := 1) rfl (nI_add t 1) (by decide) rfl (fun ls hl => ?_)
        refine lv_goto (tgt := 4) hx hb dX4_better_58 (by decide) ?_
        have e9 : (nI (rkF gp i t + 1)) = (nI (rkF gp i (t + 1))) := congrArg nI (by show _ = rkF gp i t + (if btr gp t i then 1 else 0); first | rw [if_pos (Or.inl c25)] | (first | exact (g_ip (Or.inr ⟨c40, by omega⟩) rfl) | exact (g_tp (Or.inr ⟨c40, by omega⟩) rfl) | exact (g_ap (Or.inr ⟨c40, by omega⟩) rfl)) | ((first | exact (g_in (fun h => h.elim c25 (fun h => c40 h.1)) rfl) | exact (g_tn (fun h => h.elim c25 (fun h => c40 h.1)) rfl) | exact (g_an (fun h => h.elim c25 (fun h => c40 h.1)) rfl))) | ((first | exact (g_in (fun h => h.elim c25 (fun h => absurd h.2 (by omega))) rfl) | exact (g_tn (fun h => h.elim c25 (fun h => absurd h.2 (by omega))) rfl) | exact (g_an (fun h => h.elim c25 (fun h => absurd h.2 (by omega))) rfl))))
        rw [e9] at hl
        exact ih1 H locs ls ⟨hP, hS, lv_sub hl [0, 1, 2, 3] rfl⟩
      · skip
        refine lv_aload_n hx hb dX4_better_28 rfl (lv_at hl 2 rfl) ?_
        refine va_get (D := D) (ci := 4) (v := .ref m8) (C := RX4) (T := TX4) (N := 18) hx hb hts hi4 hown hK hP 0 rfl rfl 11 (by decide) (hts (.fieldLink RX4 31 "PairedChannelsModel" "newPenalties" "[I") (List.mem_of_getElem? (i := 2) (by decide +kernel))) (fun _ h9 => h9) rfl dX4_better_29 ?_
        refine lv_iload_n hx hb dX4_better_32 rfl (lv_at hl 0 rfl) ?_
        refine wa_iald hx hb hK hP 1 0 rfl rfl (t) rfl (by omega) (by decide) dX4_better_33 ?_
        refine lv_aload_n hx hb dX4_better_34 rfl (lv_at hl 2 rfl) ?_
        refine va_get (D := D) (ci := 4) (v := .ref m8) (C := RX4) (T := TX4) (N := 18) hx hb hts hi4 hown hK hP 0 rfl rfl 11 (by decide) (hts (.fieldLink RX4 31 "PairedChannelsModel" "newPenalties" "[I") (List.mem_of_getElem? (i := 2) (by decide +kernel))) (fun _ h9 => h9) rfl dX4_better_35 ?_
        refine lv_iload_n hx hb dX4_better_38 rfl (lv_at hl 3 rfl) ?_
        refine wa_iald hx hb hK hP 1 0 rfl rfl (i) rfl (by omega) (by decide) dX4_better_39 ?_
        refine lv_icmp_ne (tgt := 52) hx hb dX4_better_40 (by decide) (fun c40 => ?_) (fun c40 => ?_)
        · skip
          refine lv_iconst (v := 0) hx hb dX4_better_52 (by decide) ?_
          refine lv_iadd hx hb dX4_better_53 ?_
          refine lv_eqi (nI (rkF gp i t + 0)) (nI_add (rkF gp i t) 0) ?_
          refine lv_istore_n (lv' := [(2, .int (nI (rkF gp i t + 0))), (3, .int (nI t)), (0, .ref m0), (1, .int (nI i))]) hx hb dX4_better_54 rfl hl (by decide) rfl (fun ls hl => ?_)
          refine lv_iinc (v := nI (t + 1)) (lv' := [(3, .int (nI (t + 1))), (2, .int (nI (rkF gp i t + 0))), (0, .ref m0), (1, .int (nI i))]) hx hb dX4_better_55 hl (k := 1) rfl (nI_add t 1) (by decide) rfl (fun ls hl => ?_)
          refine lv_goto (tgt := 4) hx hb dX4_better_58 (by decide) ?_
          have e9 : (nI (rkF gp i t + 0)) = (nI (rkF gp i (t + 1))) := congrArg nI (by show _ = rkF gp i t + (if btr gp t i then 1 else 0); first | rw [if_pos (Or.inl c25)] | (first | exact (g_ip (Or.inr ⟨c40, by omega⟩) rfl) | exact (g_tp (Or.inr ⟨c40, by omega⟩) rfl) | exact (g_ap (Or.inr ⟨c40, by omega⟩) rfl)) | ((first | exact (g_in (fun h => h.elim c25 (fun h => c40 h.1)) rfl) | exact (g_tn (fun h => h.elim c25 (fun h => c40 h.1)) rfl) | exact (g_an (fun h => h.elim c25 (fun h => c40 h.1)) rfl))) | ((first | exact (g_in (fun h => h.elim c25 (fun h => absurd h.2 (by omega))) rfl) | exact (g_tn (fun h => h.elim c25 (fun h => absurd h.2 (by omega))) rfl) | exact (g_an (fun h => h.elim c25 (fun h => absurd h.2 (by omega))) rfl))))
          rw [e9] at hl
          exact ih1 H locs ls ⟨hP, hS, lv_sub hl [0, 1, 2, 3] rfl⟩
        · skip
          refine lv_iload_n hx hb dX4_better_43 rfl (lv_at hl 0 rfl) ?_
          refine lv_iload_n hx hb dX4_better_44 rfl (lv_at hl 3 rfl) ?_
          refine lv_icmp_ge (tgt := 52) hx hb dX4_better_45 (by decide) (fun c6 => ?_) (fun c6 => ?_)
          · skip
            have c6 : i ≤ t := (nI_leI (a := i) (b := t) (by omega) (by omega)).mp c6
            refine lv_iconst (v := 0) hx hb dX4_better_52 (by decide) ?_
            refine lv_iadd hx hb dX4_better_53 ?_
            refine lv_eqi (nI (rkF gp i t + 0)) (nI_add (rkF gp i t) 0) ?_
            refine lv_istore_n (lv' := [(2, .int (nI (rkF gp i t + 0))), (3, .int (nI t)), (0, .ref m0), (1, .int (nI i))]) hx hb dX4_better_54 rfl hl (by decide) rfl (fun ls hl => ?_)
            refine lv_iinc (v := nI (t + 1)) (lv' := [(3, .int (nI (t + 1))), (2, .int (nI (rkF gp i t + 0))), (0, .ref m0), (1, .int (nI i))]) hx hb dX4_better_55 hl (k := 1) rfl (nI_add t 1) (by decide) rfl (fun ls hl => ?_)
            refine lv_goto (tgt := 4) hx hb dX4_better_58 (by decide) ?_
            have e9 : (nI (rkF gp i t + 0)) = (nI (rkF gp i (t + 1))) := congrArg nI (by show _ = rkF gp i t + (if btr gp t i then 1 else 0); first | rw [if_pos (Or.inl c25)] | (first | exact (g_ip (Or.inr ⟨c40, by omega⟩) rfl) | exact (g_tp (Or.inr ⟨c40, by omega⟩) rfl) | exact (g_ap (Or.inr ⟨c40, by omega⟩) rfl)) | ((first | exact (g_in (fun h => h.elim c25 (fun h => c40 h.1)) rfl) | exact (g_tn (fun h => h.elim c25 (fun h => c40 h.1)) rfl) | exact (g_an (fun h => h.elim c25 (fun h => c40 h.1)) rfl))) | ((first | exact (g_in (fun h => h.elim c25 (fun h => absurd h.2 (by omega))) rfl) | exact (g_tn (fun h => h.elim c25 (fun h => absurd h.2 (by omega))) rfl) | exact (g_an (fun h => h.elim c25 (fun h => absurd h.2 (by omega))) rfl))))
            rw [e9] at hl
            exact ih1 H locs ls ⟨hP, hS, lv_sub hl [0, 1, 2, 3] rfl⟩
          · skip
            have c6 : ¬ i ≤ t := fun h9 => c6 ((nI_leI (a := i) (b := t) (by omega) (by omega)).mpr h9)
            refine lv_iconst (v := 1) hx hb dX4_better_48 (by decide) ?_
            refine lv_goto (tgt := 53) hx hb dX4_better_49 (by decide) ?_
            refine lv_iadd hx hb dX4_better_53 ?_
            refine lv_eqi (nI (rkF gp i t + 1)) (nI_add (rkF gp i t) 1) ?_
            refine lv_istore_n (lv' := [(2, .int (nI (rkF gp i t + 1))), (3, .int (nI t)), (0, .ref m0), (1, .int (nI i))]) hx hb dX4_better_54 rfl hl (by decide) rfl (fun ls hl => ?_)
            refine lv_iinc (v := nI (t + 1)) (lv' := [(3, .int (nI (t + 1))), (2, .int (nI (rkF gp i t + 1))), (0, .ref m0), (1, .int (nI i))]) hx hb dX4_better_55 hl (k := 1) rfl (nI_add t 1) (by decide) rfl (fun ls hl => ?_)
            refine lv_goto (tgt := 4) hx hb dX4_better_58 (by decide) ?_
            have e9 : (nI (rkF gp i t + 1)) = (nI (rkF gp i (t + 1))) := congrArg nI (by show _ = rkF gp i t + (if btr gp t i then 1 else 0); first | rw [if_pos (Or.inl c25)] | (first | exact (g_ip (Or.inr ⟨c40, by omega⟩) rfl) | exact (g_tp (Or.inr ⟨c40, by omega⟩) rfl) | exact (g_ap (Or.inr ⟨c40, by omega⟩) rfl)) | ((first | exact (g_in (fun h => h.elim c25 (fun h => c40 h.1)) rfl) | exact (g_tn (fun h => h.elim c25 (fun h => c40 h.1)) rfl) | exact (g_an (fun h => h.elim c25 (fun h => c40 h.1)) rfl))) | ((first | exact (g_in (fun h => h.elim c25 (fun h => absurd h.2 (by omega))) rfl) | exact (g_tn (fun h => h.elim c25 (fun h => absurd h.2 (by omega))) rfl) | exact (g_an (fun h => h.elim c25 (fun h => absurd h.2 (by omega))) rfl))))
            rw [e9] at hl
            exact ih1 H locs ls ⟨hP, hS, lv_sub hl [0, 1, 2, 3] rfl⟩
  · exact ⟨hP, hS, lv_sub hl [0, 1, 2, 3] rfl⟩

set_option maxHeartbeats 4000000 in
set_option maxRecDepth 100000 in
theorem c_X4_stays0 (l : Launch) (D : va_G) (K : Nat → ClassId) (m0 : Nat) (m1 : Nat) (m2 : Nat) (m3 : Nat) (m4 : Nat) (m5 : Nat) (m6 : Nat) (m7 : Nat) (m8 : Nat) (m9 : Nat) (m10 : Nat) (th : Int32) (sy : Nat) (ly : Nat) (py : Nat) (ay : Nat) (iw : Bool) (ty : Nat) (hy : Int64) (n : Nat) (mask : Int32) (vf : Nat → Int32) (sf : Nat → Int32) (L : PL) (fb : Nat → Int32) (fp : Nat → Int32) (gb : Nat → Int32) (gp : Nat → Int32) (hsf : okS sf) (hL : hol L gb gp) (hl8 : L.length ≤ 8) : MWv l yX4_stays wsX4_stays ({ frames := 1, cells := 0, slots := 0, locals := 23 } : Room) D (gTy K) [.ref m0, .int 0] [(m0, .inr (4, [.int th, .ref m1, .ref m2, .ref m3, .int (nI sy), .ref m4, .int (nI ly), .ref m5, .ref m6, .int (nI L.length), .ref m7, .ref m8, .ref m9, .int (nI ay), .int (if iw = true then 1 else 0), .ref m10, .int (nI ty), .long hy])), (m1, .inl (K 0, 22, .inl (mst n mask vf sf))), (m5, .inl (K 0, 8, .inl fb)), (m6, .inl (K 0, 8, .inl fp)), (m7, .inl (K 0, 8, .inl gb)), (m8, .inl (K 0, 8, .inl gp))] (fun (u : (Nat → Int32) × (Nat → Int32)) => [(m0, .inr (4, [.int th, .ref m1, .ref m2, .ref m3, .int (nI sy), .ref m4, .int (nI ly), .ref m5, .ref m6, .int (nI ((keepL (lmN sf) L).length)), .ref m7, .ref m8, .ref m9, .int (nI ay), .int (if iw = true then 1 else 0), .ref m10, .int (nI ty), .long hy])), (m1, .inl (K 0, 22, .inl (mst n mask vf sf))), (m5, .inl (K 0, 8, .inl u.1)), (m6, .inl (K 0, 8, .inl u.2)), (m7, .inl (K 0, 8, .inl gb)), (m8, .inl (K 0, 8, .inl gp))]) (fun (u : (Nat → Int32) × (Nat → Int32)) => hol (keepL (lmN sf) L) u.1 u.2) 0 0 := by
  refine g_ofW (Qc := fun A => va_Qv _ (gB D (gTy K) A _) A) (cc := cX4_stays) (maxL := 5) (ret := none) (own := RX4) (by decide) rfl rfl (Nat.le_of_ble_eq_true rfl) ?_
  intro pp ee s mm below meth cc A hfx hnm hK hP hD hE hS hA ls hl
  obtain ⟨hx, hb, hr, hml, hown, hts, hlk⟩ := hfx
  have hl : lv_has ls 5 [(0, .ref m0), (1, .int 0)] := hl
  have hi4 : ∀ w ∈ u_ws RX4 TX4 18, w ∈ wsX4_stays := fun w h => List.mem_cons_of_mem _ (List.mem_append_right _ (h))
  have hlm := (okS.l hsf).2
  refine lv_iconst (v := 0) hx hb dX4_stays_0 (by decide) ?_
  refine lv_istore_n (lv' := [(2, .int 0), (0, .ref m0), (1, .int 0)]) hx hb dX4_stays_1 rfl hl (by decide) rfl (fun ls hl => ?_)
  refine lv_iconst (v := 0) hx hb dX4_stays_2 (by decide) ?_
  refine lv_istore_n (lv' := [(3, .int 0), (2, .int 0), (0, .ref m0), (1, .int 0)]) hx hb dX4_stays_3 rfl hl (by decide) rfl (fun ls hl => ?_)
  refine g_loopW (st := []) (N := L.length) (fun t H locs ls => ∃ fb : Nat → Int32, ∃ fp : Nat → Int32, (hol (kpL L (lmN sf) t) fb fp) ∧ va_P D vwCl [(m0, .inr (4, [.int th, .ref m1, .ref m2, .ref m3, .int (nI sy), .ref m4, .int (nI ly), .ref m5, .ref m6, .int (nI L.length), .ref m7, .ref m8, .ref m9, .int (nI ay), .int (if iw = true then 1 else 0), .ref m10, .int (nI ty), .long hy])), (m1, .inl (K 0, 22, .inl (mst n mask vf sf))), (m5, .inl (K 0, 8, .inl fb)), (m6, .inl (K 0, 8, .inl fp)), (m7, .inl (K 0, 8, .inl gb)), (m8, .inl (K 0, 8, .inl gp))] H ∧ va_D A [(m0, .inr (4, [.int th, .ref m1, .ref m2, .ref m3, .int (nI sy), .ref m4, .int (nI ly), .ref m5, .ref m6, .int (nI L.length), .ref m7, .ref m8, .ref m9, .int (nI ay), .int (if iw = true then 1 else 0), .ref m10, .int (nI ty), .long hy])), (m1, .inl (K 0, 22, .inl (mst n mask vf sf))), (m5, .inl (K 0, 8, .inl fb)), (m6, .inl (K 0, 8, .inl fp)), (m7, .inl (K 0, 8, .inl gb)), (m8, .inl (K 0, 8, .inl gp))] ∧ va_S A s.heap H locs ∧ lv_has ls 5 [(3, .int (nI t)), (2, .int (nI ((kpL L (lmN sf) t).length))), (0, .ref m0), (1, .int 0)]) 0 (Nat.zero_le _) ?_ ?_ ?_
  · intro H locs ls hI
    obtain ⟨fb, fp, hh, hP, hD, hS, hl⟩ := hI
    refine lv_iload_n hx hb dX4_stays_4 rfl (lv_at hl 0 rfl) ?_
    refine lv_aload_n hx hb dX4_stays_5 rfl (lv_at hl 2 rfl) ?_
    refine va_get (D := D) (ci := 4) (v := .int (nI L.length)) (C := RX4) (T := TX4) (N := 18) hx hb hts hi4 hown hK hP 0 rfl rfl 9 (by decide) (hts (.fieldLink RX4 99 "PairedChannelsModel" "pathMany" "I") (List.mem_of_getElem? (i := 1) (by decide +kernel))) (fun _ h9 => h9) rfl dX4_stays_6 ?_
    refine lv_icmp_ge (tgt := 81) hx hb dX4_stays_9 (by decide) (fun c2 => ?_) (fun c2 => ?_)
    · skip
      have c2 : L.length ≤ L.length := (nI_leI (a := L.length) (b := L.length) (by omega) (by omega)).mp c2
      refine lv_aload_n hx hb dX4_stays_81 rfl (lv_at hl 2 rfl) ?_
      refine lv_iload_n hx hb dX4_stays_82 rfl (lv_at hl 1 rfl) ?_
      refine va_put (D := D) (ci := 4) (v := .int (nI ((kpL L (lmN sf) L.length).length))) (ty := .int) (C := RX4) (T := TX4) (N := 18) hx hb hts hi4 tyX4 tyX4_ok nmX4 hown hK hP hD hS 0 rfl rfl 9 (by decide) (hts (.fieldLink RX4 99 "PairedChannelsModel" "pathMany" "I") (List.mem_of_getElem? (i := 1) (by decide +kernel))) (fun _ h9 => h9) rfl (by decide +kernel) (rfl) (rfl) (Nat.le_of_ble_eq_true rfl) dX4_stays_83 (fun H locs hP hD hS => ?_)
      have hP : va_P D vwCl [(m0, .inr (4, [.int th, .ref m1, .ref m2, .ref m3, .int (nI sy), .ref m4, .int (nI ly), .ref m5, .ref m6, .int (nI ((kpL L (lmN sf) L.length).length)), .ref m7, .ref m8, .ref m9, .int (nI ay), .int (if iw = true then 1 else 0), .ref m10, .int (nI ty), .long hy])), (m1, .inl (K 0, 22, .inl (mst n mask vf sf))), (m5, .inl (K 0, 8, .inl fb)), (m6, .inl (K 0, 8, .inl fp)), (m7, .inl (K 0, 8, .inl gb)), (m8, .inl (K 0, 8, .inl gp))] _ := hP
      have hD : va_D A [(m0, .inr (4, [.int th, .ref m1, .ref m2, .ref m3, .int (nI sy), .ref m4, .int (nI ly), .ref m5, .ref m6, .int (nI ((kpL L (lmN sf) L.length).length)), .ref m7, .ref m8, .ref m9, .int (nI ay), .int (if iw = true then 1 else 0), .ref m10, .int (nI ty), .long hy])), (m1, .inl (K 0, 22, .inl (mst n mask vf sf))), (m5, .inl (K 0, 8, .inl fb)), (m6, .inl (K 0, 8, .inl fp)), (m7, .inl (K 0, 8, .inl gb)), (m8, .inl (K 0, 8, .inl gp))] := hD
      exact gW_vret (fb, fp) hx hb hr hlk hK hP hD hS (hh) dX4_stays_86
    · skip
      have c2 : ¬ L.length ≤ L.length := fun h9 => c2 ((nI_leI (a := L.length) (b := L.length) (by omega) (by omega)).mpr h9)
      omega
  · intro t ht ih1 H locs ls hI
    obtain ⟨fb, fp, hh, hP, hD, hS, hl⟩ := hI
    have hkt := kp_le L (lmN sf) t
    have hrl := rk_lt ht
    refine lv_iload_n hx hb dX4_stays_4 rfl (lv_at hl 0 rfl) ?_
    refine lv_aload_n hx hb dX4_stays_5 rfl (lv_at hl 2 rfl) ?_
    refine va_get (D := D) (ci := 4) (v := .int (nI L.length)) (C := RX4) (T := TX4) (N := 18) hx hb hts hi4 hown hK hP 0 rfl rfl 9 (by decide) (hts (.fieldLink RX4 99 "PairedChannelsModel" "pathMany" "I") (List.mem_of_getElem? (i := 1) (by decide +kernel))) (fun _ h9 => h9) rfl dX4_stays_6 ?_
    refine lv_icmp_ge (tgt := 81) hx hb dX4_stays_9 (by decide) (fun c3 => ?_) (fun c3 => ?_)
    · skip
      have c3 : L.length ≤ t := (nI_leI (a := L.length) (b := t) (by omega) (by omega)).mp c3
      omega
    · skip
      have c3 : ¬ L.length ≤ t := fun h9 => c3 ((nI_leI (a := L.length) (b := t) (by omega) (by omega)).mpr h9)
      refine lv_aload_n hx hb dX4_stays_12 rfl (lv_at hl 2 rfl) ?_
      refine lv_iload_n hx hb dX4_stays_13 rfl (lv_at hl 0 rfl) ?_
      refine gR_i (va_runV (As := [.int (nI t)]) (rest := []) ⟨hx, hb, hml, hown, hts⟩ (c_X4_better l D K m0 m1 m2 m3 m4 m5 m6 m7 m8 m9 m10 th sy ly L.length ay iw ty hy t gp (by first | assumption | omega) (by first | assumption | omega)) (cwV 1 hts gX4_stays_X4_better rfl rfl rfl (by decide +kernel) ⟨Nat.le_of_ble_eq_true rfl, Nat.le_of_ble_eq_true rfl⟩) (gR_preV hE hS hK hP [0, 5] rfl 0 rfl rfl rfl) rfl rfl hl.1 rfl (lv_room (Nat.le_of_ble_eq_true rfl)) dX4_stays_14 ⟨Nat.le_of_ble_eq_true rfl, Nat.le_of_ble_eq_true rfl⟩) hS hP (fun rv5 H locs h4 hP hS => ?_)
      have h4 : rv5 = nI (rkF gp t L.length) := h4
      subst h4
      refine lv_eqi (nI (rk L t)) (congrArg nI (hol_pen hL ht)) ?_
      refine lv_istore (lv' := [(4, .int (nI (rk L t))), (3, .int (nI t)), (2, .int (nI ((kpL L (lmN sf) t).length))), (0, .ref m0), (1, .int 0)]) hx hb dX4_stays_17 hl (by decide) rfl (fun ls hl => ?_)
      refine lv_iload hx hb dX4_stays_19 (lv_at hl 0 rfl) ?_
      refine lv_aload_n hx hb dX4_stays_21 rfl (lv_at hl 3 rfl) ?_
      refine va_get (D := D) (ci := 4) (v := .ref m1) (C := RX4) (T := TX4) (N := 18) hx hb hts hi4 hown hK hP 0 rfl rfl 1 (by decide) (hts (.fieldLink RX4 7 "PairedChannelsModel" "s" "[I") (List.mem_of_getElem? (i := 2) (by decide +kernel))) (fun _ h9 => h9) rfl dX4_stays_22 ?_
      refine lv_iconst (v := 3) hx hb dX4_stays_25 (by decide) ?_
      refine wa_iald hx hb hK hP 1 0 rfl rfl (3) rfl (by omega) (by decide) dX4_stays_26 ?_
      refine lv_eqi (sf 1) (rfl) ?_
      refine lv_eqi (nI (lmN sf)) ((okS.l hsf).1) ?_
      refine lv_icmp_ge (tgt := 75) hx hb dX4_stays_27 (by decide) (fun c21 => ?_) (fun c21 => ?_)
      · skip
        have c21 : lmN sf ≤ rk L t := (nI_leI (a := lmN sf) (b := rk L t) (by omega) (by omega)).mp c21
        refine lv_iinc (v := nI (t + 1)) (lv' := [(3, .int (nI (t + 1))), (4, .int (nI (rk L t))), (2, .int (nI ((kpL L (lmN sf) t).length))), (0, .ref m0), (1, .int 0)]) hx hb dX4_stays_75 hl (k := 1) rfl (nI_add t 1) (by decide) rfl (fun ls hl => ?_)
        refine lv_goto (tgt := 4) hx hb dX4_stays_78 (by decide) ?_
        have e9 : (nI ((kpL L (lmN sf) t).length)) = (nI ((kpL L (lmN sf) (t + 1)).length)) := congrArg nI (by first | rw [kpL_f (Nat.not_lt.mpr c21)] | rw [kpL_t (Nat.not_le.mp c21), len1])
        rw [e9] at hl
        exact ih1 H locs ls ⟨fb, fp, (by first | (rw [kpL_f (Nat.not_lt.mpr c21)]; exact hh) | (rw [kpL_t (Nat.not_le.mp c21), (hL t ht).1, (hL t ht).2]; exact hol_push1 hh _ rfl)), hP, hD, hS, lv_sub hl [0, 2, 3, 4] rfl⟩
      · skip
        have c21 : ¬ lmN sf ≤ rk L t := fun h9 => c21 ((nI_leI (a := lmN sf) (b := rk L t) (by omega) (by omega)).mpr h9)
        refine lv_aload_n hx hb dX4_stays_30 rfl (lv_at hl 3 rfl) ?_
        refine va_get (D := D) (ci := 4) (v := .ref m5) (C := RX4) (T := TX4) (N := 18) hx hb hts hi4 hown hK hP 0 rfl rfl 7 (by decide) (hts (.fieldLink RX4 22 "PairedChannelsModel" "bits" "[I") (List.mem_of_getElem? (i := 3) (by decide +kernel))) (fun _ h9 => h9) rfl dX4_stays_31 ?_
        refine lv_iload_n hx hb dX4_stays_34 rfl (lv_at hl 4 rfl) ?_
        refine lv_if_eq (tgt := 43) hx hb dX4_stays_35 (by decide) (fun c7 => ?_) (fun c7 => ?_)
        · skip
          have c7 : 0 = 0 := (nI_eq (a := 0) (b := 0) (by omega) (by omega)).mp c7
          refine lv_iload_n hx hb dX4_stays_43 rfl (lv_at hl 2 rfl) ?_
          refine lv_aload_n hx hb dX4_stays_44 rfl (lv_at hl 3 rfl) ?_
          refine va_get (D := D) (ci := 4) (v := .ref m7) (C := RX4) (T := TX4) (N := 18) hx hb hts hi4 hown hK hP 0 rfl rfl 10 (by decide) (hts (.fieldLink RX4 28 "PairedChannelsModel" "newBits" "[I") (List.mem_of_getElem? (i := 4) (by decide +kernel))) (fun _ h9 => h9) rfl dX4_stays_45 ?_
          refine lv_iload_n hx hb dX4_stays_48 rfl (lv_at hl 1 rfl) ?_
          refine wa_iald hx hb hK hP 4 0 rfl rfl (t) rfl (by omega) (by decide) dX4_stays_49 ?_
          refine wa_iast (x := gb t) hx hb hK hP hD hS 2 0 rfl rfl ((kpL L (lmN sf) t).length) rfl (by omega) (by decide) dX4_stays_50 (fun H locs hP hD hS => ?_)
          have hP : va_P D vwCl [(m0, .inr (4, [.int th, .ref m1, .ref m2, .ref m3, .int (nI sy), .ref m4, .int (nI ly), .ref m5, .ref m6, .int (nI L.length), .ref m7, .ref m8, .ref m9, .int (nI ay), .int (if iw = true then 1 else 0), .ref m10, .int (nI ty), .long hy])), (m1, .inl (K 0, 22, .inl (mst n mask vf sf))), (m5, .inl (K 0, 8, .inl (upd fb ((kpL L (lmN sf) t).length) (gb t)))), (m6, .inl (K 0, 8, .inl fp)), (m7, .inl (K 0, 8, .inl gb)), (m8, .inl (K 0, 8, .inl gp))] _ := hP
          have hD : va_D A [(m0, .inr (4, [.int th, .ref m1, .ref m2, .ref m3, .int (nI sy), .ref m4, .int (nI ly), .ref m5, .ref m6, .int (nI L.length), .ref m7, .ref m8, .ref m9, .int (nI ay), .int (if iw = true then 1 else 0), .ref m10, .int (nI ty), .long hy])), (m1, .inl (K 0, 22, .inl (mst n mask vf sf))), (m5, .inl (K 0, 8, .inl (upd fb ((kpL L (lmN sf) t).length) (gb t)))), (m6, .inl (K 0, 8, .inl fp)), (m7, .inl (K 0, 8, .inl gb)), (m8, .inl (K 0, 8, .inl gp))] := hD
          refine lv_aload_n hx hb dX4_stays_51 rfl (lv_at hl 3 rfl) ?_
          refine va_get (D := D) (ci := 4) (v := .ref m6) (C := RX4) (T := TX4) (N := 18) hx hb hts hi4 hown hK hP 0 rfl rfl 8 (by decide) (hts (.fieldLink RX4 25 "PairedChannelsModel" "penalties" "[I") (List.mem_of_getElem? (i := 5) (by decide +kernel))) (fun _ h9 => h9) rfl dX4_stays_52 ?_
          refine lv_iload_n hx hb dX4_stays_55 rfl (lv_at hl 4 rfl) ?_
          refine lv_if_eq (tgt := 64) hx hb dX4_stays_56 (by decide) (fun c8 => ?_) (fun c8 => ?_)
          · skip
            have c8 : 0 = 0 := (nI_eq (a := 0) (b := 0) (by omega) (by omega)).mp c8
            refine lv_iload_n hx hb dX4_stays_64 rfl (lv_at hl 2 rfl) ?_
            refine lv_aload_n hx hb dX4_stays_65 rfl (lv_at hl 3 rfl) ?_
            refine va_get (D := D) (ci := 4) (v := .ref m8) (C := RX4) (T := TX4) (N := 18) hx hb hts hi4 hown hK hP 0 rfl rfl 11 (by decide) (hts (.fieldLink RX4 31 "PairedChannelsModel" "newPenalties" "[I") (List.mem_of_getElem? (i := 6) (by decide +kernel))) (fun _ h9 => h9) rfl dX4_stays_66 ?_
            refine lv_iload_n hx hb dX4_stays_69 rfl (lv_at hl 1 rfl) ?_
            refine wa_iald hx hb hK hP 5 0 rfl rfl (t) rfl (by omega) (by decide) dX4_stays_70 ?_
            refine wa_iast (x := gp t) hx hb hK hP hD hS 3 0 rfl rfl ((kpL L (lmN sf) t).length) rfl (by omega) (by decide) dX4_stays_71 (fun H locs hP hD hS => ?_)
            have hP : va_P D vwCl [(m0, .inr (4, [.int th, .ref m1, .ref m2, .ref m3, .int (nI sy), .ref m4, .int (nI ly), .ref m5, .ref m6, .int (nI L.length), .ref m7, .ref m8, .ref m9, .int (nI ay), .int (if iw = true then 1 else 0), .ref m10, .int (nI ty), .long hy])), (m1, .inl (K 0, 22, .inl (mst n mask vf sf))), (m5, .inl (K 0, 8, .inl (upd fb ((kpL L (lmN sf) t).length) (gb t)))), (m6, .inl (K 0, 8, .inl (upd fp ((kpL L (lmN sf) t).length) (gp t)))), (m7, .inl (K 0, 8, .inl gb)), (m8, .inl (K 0, 8, .inl gp))] _ := hP
            have hD : va_D A [(m0, .inr (4, [.int th, .ref m1, .ref m2, .ref m3, .int (nI sy), .ref m4, .int (nI ly), .ref m5, .ref m6, .int (nI L.length), .ref m7, .ref m8, .ref m9, .int (nI ay), .int (if iw = true then 1 else 0), .ref m10, .int (nI ty), .long hy])), (m1, .inl (K 0, 22, .inl (mst n mask vf sf))), (m5, .inl (K 0, 8, .inl (upd fb ((kpL L (lmN sf) t).length) (gb t)))), (m6, .inl (K 0, 8, .inl (upd fp ((kpL L (lmN sf) t).length) (gp t)))), (m7, .inl (K 0, 8, .inl gb)), (m8, .inl (K 0, 8, .inl gp))] := hD
            refine lv_iinc (v := nI ((kpL L (lmN sf) t).length + 1)) (lv' := [(2, .int (nI ((kpL L (lmN sf) t).length + 1))), (4, .int (nI (rk L t))), (3, .int (nI t)), (0, .ref m0), (1, .int 0)]) hx hb dX4_stays_72 hl (k := 2) rfl (nI_add ((kpL L (lmN sf) t).length) 1) (by decide) rfl (fun ls hl => ?_)
            refine lv_iinc (v := nI (t + 1)) (lv' := [(3, .int (nI (t + 1))), (2, .int (nI ((kpL L (lmN sf) t).length + 1))), (4, .int (nI (rk L t))), (0, .ref m0), (1, .int 0)]) hx hb dX4_stays_75 hl (k := 2) rfl (nI_add t 1) (by decide) rfl (fun ls hl => ?_)
            refine lv_goto (tgt := 4) hx hb dX4_stays_78 (by decide) ?_
            have e9 : (nI ((kpL L (lmN sf) t).length + 1)) = (nI ((kpL L (lmN sf) (t + 1)).length)) := congrArg nI (by first | rw [kpL_f (Nat.not_lt.mpr c21)] | rw [kpL_t (Nat.not_le.mp c21), len1])
            rw [e9] at hl
            exact ih1 H locs ls ⟨(upd fb ((kpL L (lmN sf) t).length) (gb t)), (upd fp ((kpL L (lmN sf) t).length) (gp t)), (by first | (rw [kpL_f (Nat.not_lt.mpr c21)]; exact hh) | (rw [kpL_t (Nat.not_le.mp c21), (hL t ht).1, (hL t ht).2]; exact hol_push1 hh _ rfl)), hP, hD, hS, lv_sub hl [0, 1, 3, 4] rfl⟩
          · skip
            have c8 : ¬ 0 = 0 := fun h9 => c8 ((nI_eq (a := 0) (b := 0) (by omega) (by omega)).mpr h9)
            omega
        · skip
          have c7 : ¬ 0 = 0 := fun h9 => c7 ((nI_eq (a := 0) (b := 0) (by omega) (by omega)).mpr h9)
          omega
  · exact ⟨fb, fp, (hol_nil _ _), hP, hD, hS, lv_sub hl [0, 1, 2, 3] rfl⟩

set_option maxHeartbeats 4000000 in
set_option maxRecDepth 100000 in
theorem c_X4_stays1 (l : Launch) (D : va_G) (K : Nat → ClassId) (m0 : Nat) (m1 : Nat) (m2 : Nat) (m3 : Nat) (m4 : Nat) (m5 : Nat) (m6 : Nat) (m7 : Nat) (m8 : Nat) (m9 : Nat) (m10 : Nat) (th : Int32) (sy : Nat) (ly : Nat) (py : Nat) (ay : Nat) (iw : Bool) (ty : Nat) (hy : Int64) (n : Nat) (mask : Int32) (vf : Nat → Int32) (sf : Nat → Int32) (P : PL) (fb : Nat → Int32) (fp : Nat → Int32) (gb : Nat → Int32) (gp : Nat → Int32) (hsf : okS sf) (hL : hol P gb gp) (hPl : P.length ≤ lmN sf) : MWv l yX4_stays wsX4_stays ({ frames := 1, cells := 0, slots := 0, locals := 23 } : Room) D (gTy K) [.ref m0, .int 1] [(m0, .inr (4, [.int th, .ref m1, .ref m2, .ref m3, .int (nI sy), .ref m4, .int (nI ly), .ref m5, .ref m6, .int (nI P.length), .ref m7, .ref m8, .ref m9, .int (nI ay), .int (if iw = true then 1 else 0), .ref m10, .int (nI ty), .long hy])), (m1, .inl (K 0, 22, .inl (mst n mask vf sf))), (m5, .inl (K 0, 8, .inl fb)), (m6, .inl (K 0, 8, .inl fp)), (m7, .inl (K 0, 8, .inl gb)), (m8, .inl (K 0, 8, .inl gp))] (fun (u : (Nat → Int32) × (Nat → Int32)) => [(m0, .inr (4, [.int th, .ref m1, .ref m2, .ref m3, .int (nI sy), .ref m4, .int (nI ly), .ref m5, .ref m6, .int (nI P.length), .ref m7, .ref m8, .ref m9, .int (nI ay), .int (if iw = true then 1 else 0), .ref m10, .int (nI ty), .long hy])), (m1, .inl (K 0, 22, .inl (mst n mask vf sf))), (m5, .inl (K 0, 8, .inl u.1)), (m6, .inl (K 0, 8, .inl u.2)), (m7, .inl (K 0, 8, .inl gb)), (m8, .inl (K 0, 8, .inl gp))]) (fun (u : (Nat → Int32) × (Nat → Int32)) => hol (ordL P) u.1 u.2) 0 0 := by
  refine g_ofW (Qc := fun A => va_Qv _ (gB D (gTy K) A _) A) (cc := cX4_stays) (maxL := 5) (ret := none) (own := RX4) (by decide) rfl rfl (Nat.le_of_ble_eq_true rfl) ?_
  intro pp ee s mm below meth cc A hfx hnm hK hP hD hE hS hA ls hl
  obtain ⟨hx, hb, hr, hml, hown, hts, hlk⟩ := hfx
  have hl : lv_has ls 5 [(0, .ref m0), (1, .int 1)] := hl
  have hi4 : ∀ w ∈ u_ws RX4 TX4 18, w ∈ wsX4_stays := fun w h => List.mem_cons_of_mem _ (List.mem_append_right _ (h))
  have hlm := (okS.l hsf).2
  refine lv_iconst (v := 0) hx hb dX4_stays_0 (by decide) ?_
  refine lv_istore_n (lv' := [(2, .int 0), (0, .ref m0), (1, .int 1)]) hx hb dX4_stays_1 rfl hl (by decide) rfl (fun ls hl => ?_)
  refine lv_iconst (v := 0) hx hb dX4_stays_2 (by decide) ?_
  refine lv_istore_n (lv' := [(3, .int 0), (2, .int 0), (0, .ref m0), (1, .int 1)]) hx hb dX4_stays_3 rfl hl (by decide) rfl (fun ls hl => ?_)
  refine g_loopW (st := []) (N := P.length) (fun t H locs ls => ∃ f2 : Nat → Int32, ∃ p2 : Nat → Int32, (∀ i, i < t → f2 (rk P i) = (atL P i).1 ∧ p2 (rk P i) = (atL P i).2) ∧ va_P D vwCl [(m0, .inr (4, [.int th, .ref m1, .ref m2, .ref m3, .int (nI sy), .ref m4, .int (nI ly), .ref m5, .ref m6, .int (nI P.length), .ref m7, .ref m8, .ref m9, .int (nI ay), .int (if iw = true then 1 else 0), .ref m10, .int (nI ty), .long hy])), (m1, .inl (K 0, 22, .inl (mst n mask vf sf))), (m5, .inl (K 0, 8, .inl f2)), (m6, .inl (K 0, 8, .inl p2)), (m7, .inl (K 0, 8, .inl gb)), (m8, .inl (K 0, 8, .inl gp))] H ∧ va_D A [(m0, .inr (4, [.int th, .ref m1, .ref m2, .ref m3, .int (nI sy), .ref m4, .int (nI ly), .ref m5, .ref m6, .int (nI P.length), .ref m7, .ref m8, .ref m9, .int (nI ay), .int (if iw = true then 1 else 0), .ref m10, .int (nI ty), .long hy])), (m1, .inl (K 0, 22, .inl (mst n mask vf sf))), (m5, .inl (K 0, 8, .inl f2)), (m6, .inl (K 0, 8, .inl p2)), (m7, .inl (K 0, 8, .inl gb)), (m8, .inl (K 0, 8, .inl gp))] ∧ va_S A s.heap H locs ∧ lv_has ls 5 [(3, .int (nI t)), (2, .int (nI t)), (0, .ref m0), (1, .int 1)]) 0 (Nat.zero_le _) ?_ ?_ ?_
  · intro H locs ls hI
    obtain ⟨f2, p2, h2, hP, hD, hS, hl⟩ := hI
    refine lv_iload_n hx hb dX4_stays_4 rfl (lv_at hl 0 rfl) ?_
    refine lv_aload_n hx hb dX4_stays_5 rfl (lv_at hl 2 rfl) ?_
    refine va_get (D := D) (ci := 4) (v := .int (nI P.length)) (C := RX4) (T := TX4) (N := 18) hx hb hts hi4 hown hK hP 0 rfl rfl 9 (by decide) (hts (.fieldLink RX4 99 "PairedChannelsModel" "pathMany" "I") (List.mem_of_getElem? (i := 1) (by decide +kernel))) (fun _ h9 => h9) rfl dX4_stays_6 ?_
    refine lv_icmp_ge (tgt := 81) hx hb dX4_stays_9 (by decide) (fun c2 => ?_) (fun c2 => ?_)
    · skip
      have c2 : P.length ≤ P.length := (nI_leI (a := P.length) (b := P.length) (by omega) (by omega)).mp c2
      refine lv_aload_n hx hb dX4_stays_81 rfl (lv_at hl 2 rfl) ?_
      refine lv_iload_n hx hb dX4_stays_82 rfl (lv_at hl 1 rfl) ?_
      refine va_put (D := D) (ci := 4) (v := .int (nI P.length)) (ty := .int) (C := RX4) (T := TX4) (N := 18) hx hb hts hi4 tyX4 tyX4_ok nmX4 hown hK hP hD hS 0 rfl rfl 9 (by decide) (hts (.fieldLink RX4 99 "PairedChannelsModel" "pathMany" "I") (List.mem_of_getElem? (i := 1) (by decide +kernel))) (fun _ h9 => h9) rfl (by decide +kernel) (rfl) (rfl) (Nat.le_of_ble_eq_true rfl) dX4_stays_83 (fun H locs hP hD hS => ?_)
      have hP : va_P D vwCl [(m0, .inr (4, [.int th, .ref m1, .ref m2, .ref m3, .int (nI sy), .ref m4, .int (nI ly), .ref m5, .ref m6, .int (nI P.length), .ref m7, .ref m8, .ref m9, .int (nI ay), .int (if iw = true then 1 else 0), .ref m10, .int (nI ty), .long hy])), (m1, .inl (K 0, 22, .inl (mst n mask vf sf))), (m5, .inl (K 0, 8, .inl f2)), (m6, .inl (K 0, 8, .inl p2)), (m7, .inl (K 0, 8, .inl gb)), (m8, .inl (K 0, 8, .inl gp))] _ := hP
      have hD : va_D A [(m0, .inr (4, [.int th, .ref m1, .ref m2, .ref m3, .int (nI sy), .ref m4, .int (nI ly), .ref m5, .ref m6, .int (nI P.length), .ref m7, .ref m8, .ref m9, .int (nI ay), .int (if iw = true then 1 else 0), .ref m10, .int (nI ty), .long hy])), (m1, .inl (K 0, 22, .inl (mst n mask vf sf))), (m5, .inl (K 0, 8, .inl f2)), (m6, .inl (K 0, 8, .inl p2)), (m7, .inl (K 0, 8, .inl gb)), (m8, .inl (K 0, 8, .inl gp))] := hD
      exact gW_vret (f2, p2) hx hb hr hlk hK hP hD hS (hol_ord h2) dX4_stays_86
    · skip
      have c2 : ¬ P.length ≤ P.length := fun h9 => c2 ((nI_leI (a := P.length) (b := P.length) (by omega) (by omega)).mpr h9)
      omega
  · intro t ht ih1 H locs ls hI
    obtain ⟨f2, p2, h2, hP, hD, hS, hl⟩ := hI
    have hrl := rk_lt ht
    refine lv_iload_n hx hb dX4_stays_4 rfl (lv_at hl 0 rfl) ?_
    refine lv_aload_n hx hb dX4_stays_5 rfl (lv_at hl 2 rfl) ?_
    refine va_get (D := D) (ci := 4) (v := .int (nI P.length)) (C := RX4) (T := TX4) (N := 18) hx hb hts hi4 hown hK hP 0 rfl rfl 9 (by decide) (hts (.fieldLink RX4 99 "PairedChannelsModel" "pathMany" "I") (List.mem_of_getElem? (i := 1) (by decide +kernel))) (fun _ h9 => h9) rfl dX4_stays_6 ?_
    refine lv_icmp_ge (tgt := 81) hx hb dX4_stays_9 (by decide) (fun c3 => ?_) (fun c3 => ?_)
    · skip
      have c3 : P.length ≤ t := (nI_leI (a := P.length) (b := t) (by omega) (by omega)).mp c3
      omega
    · skip
      have c3 : ¬ P.length ≤ t := fun h9 => c3 ((nI_leI (a := P.length) (b := t) (by omega) (by omega)).mpr h9)
      refine lv_aload_n hx hb dX4_stays_12 rfl (lv_at hl 2 rfl) ?_
      refine lv_iload_n hx hb dX4_stays_13 rfl (lv_at hl 0 rfl) ?_
      refine gR_i (va_runV (As := [.int (nI t)]) (rest := []) ⟨hx, hb, hml, hown, hts⟩ (c_X4_better l D K m0 m1 m2 m3 m4 m5 m6 m7 m8 m9 m10 th sy ly P.length ay iw ty hy t gp (by first | assumption | omega) (by first | assumption | omega)) (cwV 1 hts gX4_stays_X4_better rfl rfl rfl (by decide +kernel) ⟨Nat.le_of_ble_eq_true rfl, Nat.le_of_ble_eq_true rfl⟩) (gR_preV hE hS hK hP [0, 5] rfl 0 rfl rfl rfl) rfl rfl hl.1 rfl (lv_room (Nat.le_of_ble_eq_true rfl)) dX4_stays_14 ⟨Nat.le_of_ble_eq_true rfl, Nat.le_of_ble_eq_true rfl⟩) hS hP (fun rv5 H locs h4 hP hS => ?_)
      have h4 : rv5 = nI (rkF gp t P.length) := h4
      subst h4
      refine lv_eqi (nI (rk P t)) (congrArg nI (hol_pen hL ht)) ?_
      refine lv_istore (lv' := [(4, .int (nI (rk P t))), (3, .int (nI t)), (2, .int (nI t)), (0, .ref m0), (1, .int 1)]) hx hb dX4_stays_17 hl (by decide) rfl (fun ls hl => ?_)
      refine lv_iload hx hb dX4_stays_19 (lv_at hl 0 rfl) ?_
      refine lv_aload_n hx hb dX4_stays_21 rfl (lv_at hl 3 rfl) ?_
      refine va_get (D := D) (ci := 4) (v := .ref m1) (C := RX4) (T := TX4) (N := 18) hx hb hts hi4 hown hK hP 0 rfl rfl 1 (by decide) (hts (.fieldLink RX4 7 "PairedChannelsModel" "s" "[I") (List.mem_of_getElem? (i := 2) (by decide +kernel))) (fun _ h9 => h9) rfl dX4_stays_22 ?_
      refine lv_iconst (v := 3) hx hb dX4_stays_25 (by decide) ?_
      refine wa_iald hx hb hK hP 1 0 rfl rfl (3) rfl (by omega) (by decide) dX4_stays_26 ?_
      refine lv_eqi (sf 1) (rfl) ?_
      refine lv_eqi (nI (lmN sf)) ((okS.l hsf).1) ?_
      refine lv_icmp_ge (tgt := 75) hx hb dX4_stays_27 (by decide) (fun c6 => ?_) (fun c6 => ?_)
      · skip
        have c6 : lmN sf ≤ rk P t := (nI_leI (a := lmN sf) (b := rk P t) (by omega) (by omega)).mp c6
        omega
      · skip
        have c6 : ¬ lmN sf ≤ rk P t := fun h9 => c6 ((nI_leI (a := lmN sf) (b := rk P t) (by omega) (by omega)).mpr h9)
        refine lv_aload_n hx hb dX4_stays_30 rfl (lv_at hl 3 rfl) ?_
        refine va_get (D := D) (ci := 4) (v := .ref m5) (C := RX4) (T := TX4) (N := 18) hx hb hts hi4 hown hK hP 0 rfl rfl 7 (by decide) (hts (.fieldLink RX4 22 "PairedChannelsModel" "bits" "[I") (List.mem_of_getElem? (i := 3) (by decide +kernel))) (fun _ h9 => h9) rfl dX4_stays_31 ?_
        refine lv_iload_n hx hb dX4_stays_34 rfl (lv_at hl 4 rfl) ?_
        refine lv_if_eq (tgt := 43) hx hb dX4_stays_35 (by decide) (fun c7 => ?_) (fun c7 => ?_)
        · skip
          have c7 : 1 = 0 := (nI_eq (a := 1) (b := 0) (by omega) (by omega)).mp c7
          omega
        · skip
          have c7 : ¬ 1 = 0 := fun h9 => c7 ((nI_eq (a := 1) (b := 0) (by omega) (by omega)).mpr h9)
          refine lv_iload hx hb dX4_stays_38 (lv_at hl 0 rfl) ?_
          refine lv_goto (tgt := 44) hx hb dX4_stays_40 (by decide) ?_
          refine lv_aload_n hx hb dX4_stays_44 rfl (lv_at hl 3 rfl) ?_
          refine va_get (D := D) (ci := 4) (v := .ref m7) (C := RX4) (T := TX4) (N := 18) hx hb hts hi4 hown hK hP 0 rfl rfl 10 (by decide) (hts (.fieldLink RX4 28 "PairedChannelsModel" "newBits" "[I") (List.mem_of_getElem? (i := 4) (by decide +kernel))) (fun _ h9 => h9) rfl dX4_stays_45 ?_
          refine lv_iload_n hx hb dX4_stays_48 rfl (lv_at hl 1 rfl) ?_
          refine wa_iald hx hb hK hP 4 0 rfl rfl (t) rfl (by omega) (by decide) dX4_stays_49 ?_
          refine wa_iast (x := gb t) hx hb hK hP hD hS 2 0 rfl rfl (rk P t) rfl (by omega) (by decide) dX4_stays_50 (fun H locs hP hD hS => ?_)
          have hP : va_P D vwCl [(m0, .inr (4, [.int th, .ref m1, .ref m2, .ref m3, .int (nI sy), .ref m4, .int (nI ly), .ref m5, .ref m6, .int (nI P.length), .ref m7, .ref m8, .ref m9, .int (nI ay), .int (if iw = true then 1 else 0), .ref m10, .int (nI ty), .long hy])), (m1, .inl (K 0, 22, .inl (mst n mask vf sf))), (m5, .inl (K 0, 8, .inl (upd f2 (rk P t) (gb t)))), (m6, .inl (K 0, 8, .inl p2)), (m7, .inl (K 0, 8, .inl gb)), (m8, .inl (K 0, 8, .inl gp))] _ := hP
          have hD : va_D A [(m0, .inr (4, [.int th, .ref m1, .ref m2, .ref m3, .int (nI sy), .ref m4, .int (nI ly), .ref m5, .ref m6, .int (nI P.length), .ref m7, .ref m8, .ref m9, .int (nI ay), .int (if iw = true then 1 else 0), .ref m10, .int (nI ty), .long hy])), (m1, .inl (K 0, 22, .inl (mst n mask vf sf))), (m5, .inl (K 0, 8, .inl (upd f2 (rk P t) (gb t)))), (m6, .inl (K 0, 8, .inl p2)), (m7, .inl (K 0, 8, .inl gb)), (m8, .inl (K 0, 8, .inl gp))] := hD
          refine lv_aload_n hx hb dX4_stays_51 rfl (lv_at hl 3 rfl) ?_
          refine va_get (D := D) (ci := 4) (v := .ref m6) (C := RX4) (T := TX4) (N := 18) hx hb hts hi4 hown hK hP 0 rfl rfl 8 (by decide) (hts (.fieldLink RX4 25 "PairedChannelsModel" "penalties" "[I") (List.mem_of_getElem? (i := 5) (by decide +kernel))) (fun _ h9 => h9) rfl dX4_stays_52 ?_
          refine lv_iload_n hx hb dX4_stays_55 rfl (lv_at hl 4 rfl) ?_
          refine lv_if_eq (tgt := 64) hx hb dX4_stays_56 (by decide) (fun c8 => ?_) (fun c8 => ?_)
          · skip
            have c8 : 1 = 0 := (nI_eq (a := 1) (b := 0) (by omega) (by omega)).mp c8
            omega
          · skip
            have c8 : ¬ 1 = 0 := fun h9 => c8 ((nI_eq (a := 1) (b := 0) (by omega) (by omega)).mpr h9)
            refine lv_iload hx hb dX4_stays_59 (lv_at hl 0 rfl) ?_
            refine lv_goto (tgt := 65) hx hb dX4_stays_61 (by decide) ?_
            refine lv_aload_n hx hb dX4_stays_65 rfl (lv_at hl 3 rfl) ?_
            refine va_get (D := D) (ci := 4) (v := .ref m8) (C := RX4) (T := TX4) (N := 18) hx hb hts hi4 hown hK hP 0 rfl rfl 11 (by decide) (hts (.fieldLink RX4 31 "PairedChannelsModel" "newPenalties" "[I") (List.mem_of_getElem? (i := 6) (by decide +kernel))) (fun _ h9 => h9) rfl dX4_stays_66 ?_
            refine lv_iload_n hx hb dX4_stays_69 rfl (lv_at hl 1 rfl) ?_
            refine wa_iald hx hb hK hP 5 0 rfl rfl (t) rfl (by omega) (by decide) dX4_stays_70 ?_
            refine wa_iast (x := gp t) hx hb hK hP hD hS 3 0 rfl rfl (rk P t) rfl (by omega) (by decide) dX4_stays_71 (fun H locs hP hD hS => ?_)
            have hP : va_P D vwCl [(m0, .inr (4, [.int th, .ref m1, .ref m2, .ref m3, .int (nI sy), .ref m4, .int (nI ly), .ref m5, .ref m6, .int (nI P.length), .ref m7, .ref m8, .ref m9, .int (nI ay), .int (if iw = true then 1 else 0), .ref m10, .int (nI ty), .long hy])), (m1, .inl (K 0, 22, .inl (mst n mask vf sf))), (m5, .inl (K 0, 8, .inl (upd f2 (rk P t) (gb t)))), (m6, .inl (K 0, 8, .inl (upd p2 (rk P t) (gp t)))), (m7, .inl (K 0, 8, .inl gb)), (m8, .inl (K 0, 8, .inl gp))] _ := hP
            have hD : va_D A [(m0, .inr (4, [.int th, .ref m1, .ref m2, .ref m3, .int (nI sy), .ref m4, .int (nI ly), .ref m5, .ref m6, .int (nI P.length), .ref m7, .ref m8, .ref m9, .int (nI ay), .int (if iw = true then 1 else 0), .ref m10, .int (nI ty), .long hy])), (m1, .inl (K 0, 22, .inl (mst n mask vf sf))), (m5, .inl (K 0, 8, .inl (upd f2 (rk P t) (gb t)))), (m6, .inl (K 0, 8, .inl (upd p2 (rk P t) (gp t)))), (m7, .inl (K 0, 8, .inl gb)), (m8, .inl (K 0, 8, .inl gp))] := hD
            refine lv_iinc (v := nI (t + 1)) (lv' := [(2, .int (nI (t + 1))), (4, .int (nI (rk P t))), (3, .int (nI t)), (0, .ref m0), (1, .int 1)]) hx hb dX4_stays_72 hl (k := 2) rfl (nI_add t 1) (by decide) rfl (fun ls hl => ?_)
            refine lv_iinc (v := nI (t + 1)) (lv' := [(3, .int (nI (t + 1))), (2, .int (nI (t + 1))), (4, .int (nI (rk P t))), (0, .ref m0), (1, .int 1)]) hx hb dX4_stays_75 hl (k := 2) rfl (nI_add t 1) (by decide) rfl (fun ls hl => ?_)
            refine lv_goto (tgt := 4) hx hb dX4_stays_78 (by decide) ?_
            exact ih1 H locs ls ⟨(upd f2 (rk P t) (gb t)), (upd p2 (rk P t) (gp t)), (fun i hi => by by_cases e : i = t; subst e; exact ⟨pk_us.trans (hL i ht).1, pk_us.trans (hL i ht).2⟩; rw [pk_un (fun h => e (rk_inj (by omega) ht h)), pk_un (fun h => e (rk_inj (by omega) ht h))]; exact h2 i (by omega)), hP, hD, hS, lv_sub hl [0, 1, 3, 4] rfl⟩
  · exact ⟨fb, fp, (fun i hi => absurd hi (Nat.not_lt_zero i)), hP, hD, hS, lv_sub hl [0, 1, 2, 3] rfl⟩
