set_option maxHeartbeats 4000000 in
set_option maxRecDepth 100000 in
theorem c_X0_pairUnread (l : Launch) (D : va_G) (K : Nat → ClassId) (r0 : Nat) (r1 : Nat) (r2 : Nat) (r3 : Nat) (r4 : Nat) (r5 : Nat) (r6 : Nat) (r7 : Nat) (r8 : Nat) (n : Nat) (ig : Int32) (ip : Int32) (ir : Int32) (h : Nat) (fw : Nat → Int32) (hh : 2 * h ≤ 16) : MWv l yX0_pairUnread wsX0_pairUnread ({ frames := 0, cells := 0, slots := 0, locals := 0 } : Room) D (gTy K) [.ref r0, .int (nI h)] [(r0, .inr (0, [.ref r1, .ref r2, .ref r3, .ref r4, .ref r5, .ref r6, .ref r7, .ref r8, .int ig, .int (nI n), .int ip, .int ir])), (r2, .inl (K 0, 16, .inl fw))] (fun (u : Unit) => [(r0, .inr (0, [.ref r1, .ref r2, .ref r3, .ref r4, .ref r5, .ref r6, .ref r7, .ref r8, .int ig, .int (nI n), .int ip, .int ir])), (r2, .inl (K 0, 16, .inl (puR h fw h)))]) (fun (u : Unit) => True) 0 0 := by
  refine g_ofW (Qc := fun A => va_Qv _ (gB D (gTy K) A _) A) (cc := cX0_pairUnread) (maxL := 8) (ret := none) (own := RX0) (by decide) rfl rfl (Nat.le_of_ble_eq_true rfl) ?_
  intro pp ee s mm below meth cc A hfx hnm hK hP hD hE hS hA ls hl
  obtain ⟨hx, hb, hr, hml, hown, hts, hlk⟩ := hfx
  have hl : lv_has ls 8 [(0, .ref r0), (1, .int (nI h))] := hl
  have hi0 : ∀ w ∈ u_ws RX0 TX0 12, w ∈ wsX0_pairUnread := fun w h => List.mem_cons_of_mem _ (List.mem_append_right _ (h))
  refine lv_iconst (v := 0) hx hb dX0_pairUnread_0 (by decide) ?_
  refine lv_istore_n (lv' := [(2, .int 0), (0, .ref r0), (1, .int (nI h))]) hx hb dX0_pairUnread_1 rfl hl (by decide) rfl (fun ls hl => ?_)
  have e1 : fw = (puR h fw 0) := (puR_0 h fw).symm
  rw [e1] at hP hD
  have hP : va_P D vwCl [(r0, .inr (0, [.ref r1, .ref r2, .ref r3, .ref r4, .ref r5, .ref r6, .ref r7, .ref r8, .int ig, .int (nI n), .int ip, .int ir])), (r2, .inl (K 0, 16, .inl (puR h fw 0)))] _ := hP
  have hD : va_D A [(r0, .inr (0, [.ref r1, .ref r2, .ref r3, .ref r4, .ref r5, .ref r6, .ref r7, .ref r8, .int ig, .int (nI n), .int ip, .int ir])), (r2, .inl (K 0, 16, .inl (puR h fw 0)))] := hD
  refine g_loopW (st := []) (N := h) (fun i H locs ls => va_P D vwCl [(r0, .inr (0, [.ref r1, .ref r2, .ref r3, .ref r4, .ref r5, .ref r6, .ref r7, .ref r8, .int ig, .int (nI n), .int ip, .int ir])), (r2, .inl (K 0, 16, .inl (puR h fw i)))] H ∧ va_D A [(r0, .inr (0, [.ref r1, .ref r2, .ref r3, .ref r4, .ref r5, .ref r6, .ref r7, .ref r8, .int ig, .int (nI n), .int ip, .int ir])), (r2, .inl (K 0, 16, .inl (puR h fw i)))] ∧ va_S A s.heap H locs ∧ lv_has ls 8 [(2, .int (nI i)), (0, .ref r0), (1, .int (nI h))]) 0 (Nat.zero_le _) ?_ ?_ ?_
  · intro H locs ls hI
    obtain ⟨hP, hD, hS, hl⟩ := hI
    refine lv_iload_n hx hb dX0_pairUnread_2 rfl (lv_at hl 0 rfl) ?_
    refine lv_iload_n hx hb dX0_pairUnread_3 rfl (lv_at hl 2 rfl) ?_
    refine lv_icmp_ge (tgt := 109) hx hb dX0_pairUnread_4 (by decide) (fun c3 => ?_) (fun c3 => ?_)
    · skip
      have c3 : h ≤ h := (nI_leI (a := h) (b := h) (by omega) (by omega)).mp c3
      exact gW_vret () hx hb hr hlk hK hP hD hS (trivial) dX0_pairUnread_109
    · skip
      have c3 : ¬ h ≤ h := fun h9 => c3 ((nI_leI (a := h) (b := h) (by omega) (by omega)).mpr h9)
      omega
  · intro i hi ih2 H locs ls hI
    obtain ⟨hP, hD, hS, hl⟩ := hI
    refine lv_iload_n hx hb dX0_pairUnread_2 rfl (lv_at hl 0 rfl) ?_
    refine lv_iload_n hx hb dX0_pairUnread_3 rfl (lv_at hl 2 rfl) ?_
    refine lv_icmp_ge (tgt := 109) hx hb dX0_pairUnread_4 (by decide) (fun c4 => ?_) (fun c4 => ?_)
    · skip
      have c4 : h ≤ i := (nI_leI (a := h) (b := i) (by omega) (by omega)).mp c4
      omega
    · skip
      have c4 : ¬ h ≤ i := fun h9 => c4 ((nI_leI (a := h) (b := i) (by omega) (by omega)).mpr h9)
      refine lv_aload_n hx hb dX0_pairUnread_7 rfl (lv_at hl 1 rfl) ?_
      refine va_get (D := D) (ci := 0) (v := .ref r2) (C := RX0) (T := TX0) (N := 12) hx hb hts hi0 hown hK hP 0 rfl rfl 1 (by decide) (hts (.fieldLink RX0 15 "PairedChannels$Reading" "row" "[I") (List.mem_of_getElem? (i := 1) (by decide +kernel))) (fun _ h9 => h9) rfl dX0_pairUnread_8 ?_
      refine lv_iload_n hx hb dX0_pairUnread_11 rfl (lv_at hl 0 rfl) ?_
      refine wa_iald hx hb hK hP 1 0 rfl rfl (i) rfl (by omega) (by decide) dX0_pairUnread_12 ?_
      refine lv_eqi (fw i) (puR_ge (Nat.le_refl i)) ?_
      refine lv_istore_n (lv' := [(3, .int (fw i)), (2, .int (nI i)), (0, .ref r0), (1, .int (nI h))]) hx hb dX0_pairUnread_13 rfl hl (by decide) rfl (fun ls hl => ?_)
      refine lv_aload_n hx hb dX0_pairUnread_14 rfl (lv_at hl 2 rfl) ?_
      refine va_get (D := D) (ci := 0) (v := .ref r2) (C := RX0) (T := TX0) (N := 12) hx hb hts hi0 hown hK hP 0 rfl rfl 1 (by decide) (hts (.fieldLink RX0 15 "PairedChannels$Reading" "row" "[I") (List.mem_of_getElem? (i := 1) (by decide +kernel))) (fun _ h9 => h9) rfl dX0_pairUnread_15 ?_
      refine lv_iload_n hx hb dX0_pairUnread_18 rfl (lv_at hl 1 rfl) ?_
      refine lv_iload_n hx hb dX0_pairUnread_19 rfl (lv_at hl 3 rfl) ?_
      refine lv_iadd hx hb dX0_pairUnread_20 ?_
      refine lv_eqi (nI (i + h)) (nI_add i h) ?_
      refine wa_iald hx hb hK hP 1 0 rfl rfl (i + h) rfl (by omega) (by decide) dX0_pairUnread_21 ?_
      refine lv_eqi (fw (i + h)) (puR_ge (by omega)) ?_
      refine lv_istore (lv' := [(4, .int (fw (i + h))), (3, .int (fw i)), (2, .int (nI i)), (0, .ref r0), (1, .int (nI h))]) hx hb dX0_pairUnread_22 hl (by decide) rfl (fun ls hl => ?_)
      refine lv_iload_n hx hb dX0_pairUnread_24 rfl (lv_at hl 1 rfl) ?_
      refine g_cut (F0 mm 34 ls [.int (if 0 ≤ fw i then fw i else (-(fw i)))]) (fun hJ => ?_) ?_
      · refine lv_if_ge (tgt := 33) hx hb dX0_pairUnread_25 (by decide) (fun c5 => ?_) (fun c5 => ?_)
        · skip
          refine lv_iload_n hx hb dX0_pairUnread_33 rfl (lv_at hl 1 rfl) ?_
          refine lv_eqi ((if 0 ≤ fw i then fw i else (-(fw i)))) (if_pos c5).symm ?_
          exact hJ
        · skip
          refine lv_iload_n hx hb dX0_pairUnread_28 rfl (lv_at hl 1 rfl) ?_
          refine lv_ineg hx hb dX0_pairUnread_29 ?_
          refine lv_goto (tgt := 34) hx hb dX0_pairUnread_30 (by decide) ?_
          refine lv_eqi ((if 0 ≤ fw i then fw i else (-(fw i)))) (if_neg c5).symm ?_
          exact hJ
      · skip
        refine lv_eqi (absI (fw i)) (abs3 _) ?_
        refine lv_istore (lv' := [(5, .int (absI (fw i))), (4, .int (fw (i + h))), (3, .int (fw i)), (2, .int (nI i)), (0, .ref r0), (1, .int (nI h))]) hx hb dX0_pairUnread_34 hl (by decide) rfl (fun ls hl => ?_)
        refine lv_iload hx hb dX0_pairUnread_36 (lv_at hl 1 rfl) ?_
        refine g_cut (F0 mm 49 ls [.int (if 0 ≤ fw (i + h) then fw (i + h) else (-(fw (i + h))))]) (fun hJ => ?_) ?_
        · refine lv_if_ge (tgt := 47) hx hb dX0_pairUnread_38 (by decide) (fun c6 => ?_) (fun c6 => ?_)
          · skip
            refine lv_iload hx hb dX0_pairUnread_47 (lv_at hl 1 rfl) ?_
            refine lv_eqi ((if 0 ≤ fw (i + h) then fw (i + h) else (-(fw (i + h))))) (if_pos c6).symm ?_
            exact hJ
          · skip
            refine lv_iload hx hb dX0_pairUnread_41 (lv_at hl 1 rfl) ?_
            refine lv_ineg hx hb dX0_pairUnread_43 ?_
            refine lv_goto (tgt := 49) hx hb dX0_pairUnread_44 (by decide) ?_
            refine lv_eqi ((if 0 ≤ fw (i + h) then fw (i + h) else (-(fw (i + h))))) (if_neg c6).symm ?_
            exact hJ
        · skip
          refine lv_eqi (absI (fw (i + h))) (abs3 _) ?_
          refine lv_istore (lv' := [(6, .int (absI (fw (i + h)))), (5, .int (absI (fw i))), (4, .int (fw (i + h))), (3, .int (fw i)), (2, .int (nI i)), (0, .ref r0), (1, .int (nI h))]) hx hb dX0_pairUnread_49 hl (by decide) rfl (fun ls hl => ?_)
          refine lv_iload hx hb dX0_pairUnread_51 (lv_at hl 1 rfl) ?_
          refine lv_iload hx hb dX0_pairUnread_53 (lv_at hl 0 rfl) ?_
          refine g_cut (F0 mm 65 ls [.int (if absI (fw (i + h)) ≤ absI (fw i) then absI (fw (i + h)) else absI (fw i))]) (fun hJ => ?_) ?_
          · refine lv_icmp_ge (tgt := 63) hx hb dX0_pairUnread_55 (by decide) (fun c7 => ?_) (fun c7 => ?_)
            · skip
              refine lv_iload hx hb dX0_pairUnread_63 (lv_at hl 0 rfl) ?_
              refine lv_eqi ((if absI (fw (i + h)) ≤ absI (fw i) then absI (fw (i + h)) else absI (fw i))) (if_pos c7).symm ?_
              exact hJ
            · skip
              refine lv_iload hx hb dX0_pairUnread_58 (lv_at hl 1 rfl) ?_
              refine lv_goto (tgt := 65) hx hb dX0_pairUnread_60 (by decide) ?_
              refine lv_eqi ((if absI (fw (i + h)) ≤ absI (fw i) then absI (fw (i + h)) else absI (fw i))) (if_neg c7).symm ?_
              exact hJ
          · skip
            refine lv_eqi ((if absI (fw i) < absI (fw (i + h)) then absI (fw i) else absI (fw (i + h)))) (min_eq _ _) ?_
            refine lv_istore (lv' := [(7, .int (if absI (fw i) < absI (fw (i + h)) then absI (fw i) else absI (fw (i + h)))), (6, .int (absI (fw (i + h)))), (5, .int (absI (fw i))), (4, .int (fw (i + h))), (3, .int (fw i)), (2, .int (nI i)), (0, .ref r0), (1, .int (nI h))]) hx hb dX0_pairUnread_65 hl (by decide) rfl (fun ls hl => ?_)
            refine lv_aload_n hx hb dX0_pairUnread_67 rfl (lv_at hl 6 rfl) ?_
            refine va_get (D := D) (ci := 0) (v := .ref r2) (C := RX0) (T := TX0) (N := 12) hx hb hts hi0 hown hK hP 0 rfl rfl 1 (by decide) (hts (.fieldLink RX0 15 "PairedChannels$Reading" "row" "[I") (List.mem_of_getElem? (i := 1) (by decide +kernel))) (fun _ h9 => h9) rfl dX0_pairUnread_68 ?_
            refine lv_iload_n hx hb dX0_pairUnread_71 rfl (lv_at hl 5 rfl) ?_
            refine lv_iload_n hx hb dX0_pairUnread_72 rfl (lv_at hl 4 rfl) ?_
            refine g_cut (F0 mm 81 ls [.int (if ¬ (0 ≤ fw i) then 1 else 0), .int (nI i), .ref r2]) (fun hJ => ?_) ?_
            · refine lv_if_ge (tgt := 80) hx hb dX0_pairUnread_73 (by decide) (fun c8 => ?_) (fun c8 => ?_)
              · skip
                refine lv_iconst (v := 0) hx hb dX0_pairUnread_80 (by decide) ?_
                refine lv_eqi ((if ¬ (0 ≤ fw i) then 1 else 0)) (if_neg (fun h => h c8)).symm ?_
                exact hJ
              · skip
                refine lv_iconst (v := 1) hx hb dX0_pairUnread_76 (by decide) ?_
                refine lv_goto (tgt := 81) hx hb dX0_pairUnread_77 (by decide) ?_
                refine lv_eqi ((if ¬ (0 ≤ fw i) then 1 else 0)) (if_pos c8).symm ?_
                exact hJ
            · skip
              refine lv_iload hx hb dX0_pairUnread_81 (lv_at hl 3 rfl) ?_
              refine g_cut (F0 mm 91 ls [.int (if ¬ (0 ≤ fw (i + h)) then 1 else 0), .int (if ¬ (0 ≤ fw i) then 1 else 0), .int (nI i), .ref r2]) (fun hJ => ?_) ?_
              · refine lv_if_ge (tgt := 90) hx hb dX0_pairUnread_83 (by decide) (fun c10 => ?_) (fun c10 => ?_)
                · skip
                  refine lv_iconst (v := 0) hx hb dX0_pairUnread_90 (by decide) ?_
                  refine lv_eqi ((if ¬ (0 ≤ fw (i + h)) then 1 else 0)) (if_neg (fun h => h c10)).symm ?_
                  exact hJ
                · skip
                  refine lv_iconst (v := 1) hx hb dX0_pairUnread_86 (by decide) ?_
                  refine lv_goto (tgt := 91) hx hb dX0_pairUnread_87 (by decide) ?_
                  refine lv_eqi ((if ¬ (0 ≤ fw (i + h)) then 1 else 0)) (if_pos c10).symm ?_
                  exact hJ
              · skip
                refine g_cut (F0 mm 102 ls [.int (if ((if ¬ (0 ≤ fw i) then 1 else 0) : Int32) = ((if ¬ (0 ≤ fw (i + h)) then 1 else 0) : Int32) then (if absI (fw i) < absI (fw (i + h)) then absI (fw i) else absI (fw (i + h))) else (-(if absI (fw i) < absI (fw (i + h)) then absI (fw i) else absI (fw (i + h))))), .int (nI i), .ref r2]) (fun hJ => ?_) ?_
                · refine lv_icmp_ne (tgt := 99) hx hb dX0_pairUnread_91 (by decide) (fun c12 => ?_) (fun c12 => ?_)
                  · skip
                    refine lv_iload hx hb dX0_pairUnread_99 (lv_at hl 0 rfl) ?_
                    refine lv_ineg hx hb dX0_pairUnread_101 ?_
                    refine lv_eqi ((if ((if ¬ (0 ≤ fw i) then 1 else 0) : Int32) = ((if ¬ (0 ≤ fw (i + h)) then 1 else 0) : Int32) then (if absI (fw i) < absI (fw (i + h)) then absI (fw i) else absI (fw (i + h))) else (-(if absI (fw i) < absI (fw (i + h)) then absI (fw i) else absI (fw (i + h)))))) (if_neg c12).symm ?_
                    exact hJ
                  · skip
                    refine lv_iload hx hb dX0_pairUnread_94 (lv_at hl 0 rfl) ?_
                    refine lv_goto (tgt := 102) hx hb dX0_pairUnread_96 (by decide) ?_
                    refine lv_eqi ((if ((if ¬ (0 ≤ fw i) then 1 else 0) : Int32) = ((if ¬ (0 ≤ fw (i + h)) then 1 else 0) : Int32) then (if absI (fw i) < absI (fw (i + h)) then absI (fw i) else absI (fw (i + h))) else (-(if absI (fw i) < absI (fw (i + h)) then absI (fw i) else absI (fw (i + h)))))) (if_pos c12).symm ?_
                    exact hJ
                · skip
                  refine lv_eqi (pu (fw i) (fw (i + h))) (pu_eq _ _) ?_
                  refine wa_iast (x := pu (fw i) (fw (i + h))) hx hb hK hP hD hS 1 0 rfl rfl (i) rfl (by omega) (by decide) dX0_pairUnread_102 (fun H locs hP hD hS => ?_)
                  have hP : va_P D vwCl [(r0, .inr (0, [.ref r1, .ref r2, .ref r3, .ref r4, .ref r5, .ref r6, .ref r7, .ref r8, .int ig, .int (nI n), .int ip, .int ir])), (r2, .inl (K 0, 16, .inl (upd (puR h fw i) i (pu (fw i) (fw (i + h))))))] _ := hP
                  have hD : va_D A [(r0, .inr (0, [.ref r1, .ref r2, .ref r3, .ref r4, .ref r5, .ref r6, .ref r7, .ref r8, .int ig, .int (nI n), .int ip, .int ir])), (r2, .inl (K 0, 16, .inl (upd (puR h fw i) i (pu (fw i) (fw (i + h))))))] := hD
                  have e13 : (upd (puR h fw i) i (pu (fw i) (fw (i + h)))) = (puR h fw (i + 1)) := puR_s h fw i
                  rw [e13] at hP hD
                  have hP : va_P D vwCl [(r0, .inr (0, [.ref r1, .ref r2, .ref r3, .ref r4, .ref r5, .ref r6, .ref r7, .ref r8, .int ig, .int (nI n), .int ip, .int ir])), (r2, .inl (K 0, 16, .inl (puR h fw (i + 1))))] _ := hP
                  have hD : va_D A [(r0, .inr (0, [.ref r1, .ref r2, .ref r3, .ref r4, .ref r5, .ref r6, .ref r7, .ref r8, .int ig, .int (nI n), .int ip, .int ir])), (r2, .inl (K 0, 16, .inl (puR h fw (i + 1))))] := hD
                  refine lv_iinc (v := nI (i + 1)) (lv' := [(2, .int (nI (i + 1))), (7, .int (if absI (fw i) < absI (fw (i + h)) then absI (fw i) else absI (fw (i + h)))), (6, .int (absI (fw (i + h)))), (5, .int (absI (fw i))), (4, .int (fw (i + h))), (3, .int (fw i)), (0, .ref r0), (1, .int (nI h))]) hx hb dX0_pairUnread_103 hl (k := 5) rfl (nI_add i 1) (by decide) rfl (fun ls hl => ?_)
                  refine lv_goto (tgt := 2) hx hb dX0_pairUnread_106 (by decide) ?_
                  exact ih2 H locs ls ⟨hP, hD, hS, lv_sub hl [0, 6, 7] rfl⟩
  · exact ⟨hP, hD, hS, lv_sub hl [0, 1, 2] rfl⟩

set_option maxHeartbeats 4000000 in
set_option maxRecDepth 100000 in
theorem c_X0_pairRead (l : Launch) (D : va_G) (K : Nat → ClassId) (r0 : Nat) (r1 : Nat) (r2 : Nat) (r3 : Nat) (r4 : Nat) (r5 : Nat) (r6 : Nat) (r7 : Nat) (r8 : Nat) (n : Nat) (ig : Int32) (ip : Int32) (ir : Int32) (h : Nat) (mk : Int32) (fw : Nat → Int32) (hh : 2 * h ≤ 16) : MWv l yX0_pairRead wsX0_pairRead ({ frames := 0, cells := 0, slots := 0, locals := 0 } : Room) D (gTy K) [.ref r0, .int (nI h), .int mk] [(r0, .inr (0, [.ref r1, .ref r2, .ref r3, .ref r4, .ref r5, .ref r6, .ref r7, .ref r8, .int ig, .int (nI n), .int ip, .int ir])), (r2, .inl (K 0, 16, .inl fw))] (fun (u : Unit) => [(r0, .inr (0, [.ref r1, .ref r2, .ref r3, .ref r4, .ref r5, .ref r6, .ref r7, .ref r8, .int ig, .int (nI n), .int ip, .int ir])), (r2, .inl (K 0, 16, .inl (prR h mk fw h)))]) (fun (u : Unit) => True) 0 0 := by
  refine g_ofW (Qc := fun A => va_Qv _ (gB D (gTy K) A _) A) (cc := cX0_pairRead) (maxL := 5) (ret := none) (own := RX0) (by decide) rfl rfl (Nat.le_of_ble_eq_true rfl) ?_
  intro pp ee s mm below meth cc A hfx hnm hK hP hD hE hS hA ls hl
  obtain ⟨hx, hb, hr, hml, hown, hts, hlk⟩ := hfx
  have hl : lv_has ls 5 [(0, .ref r0), (1, .int (nI h)), (2, .int mk)] := hl
  have hi0 : ∀ w ∈ u_ws RX0 TX0 12, w ∈ wsX0_pairRead := fun w h => List.mem_cons_of_mem _ (List.mem_append_right _ (h))
  refine lv_iconst (v := 0) hx hb dX0_pairRead_0 (by decide) ?_
  refine lv_istore_n (lv' := [(3, .int 0), (0, .ref r0), (1, .int (nI h)), (2, .int mk)]) hx hb dX0_pairRead_1 rfl hl (by decide) rfl (fun ls hl => ?_)
  have e1 : fw = (prR h mk fw 0) := (prR_0 h mk fw).symm
  rw [e1] at hP hD
  have hP : va_P D vwCl [(r0, .inr (0, [.ref r1, .ref r2, .ref r3, .ref r4, .ref r5, .ref r6, .ref r7, .ref r8, .int ig, .int (nI n), .int ip, .int ir])), (r2, .inl (K 0, 16, .inl (prR h mk fw 0)))] _ := hP
  have hD : va_D A [(r0, .inr (0, [.ref r1, .ref r2, .ref r3, .ref r4, .ref r5, .ref r6, .ref r7, .ref r8, .int ig, .int (nI n), .int ip, .int ir])), (r2, .inl (K 0, 16, .inl (prR h mk fw 0)))] := hD
  refine g_loopW (st := []) (N := h) (fun i H locs ls => va_P D vwCl [(r0, .inr (0, [.ref r1, .ref r2, .ref r3, .ref r4, .ref r5, .ref r6, .ref r7, .ref r8, .int ig, .int (nI n), .int ip, .int ir])), (r2, .inl (K 0, 16, .inl (prR h mk fw i)))] H ∧ va_D A [(r0, .inr (0, [.ref r1, .ref r2, .ref r3, .ref r4, .ref r5, .ref r6, .ref r7, .ref r8, .int ig, .int (nI n), .int ip, .int ir])), (r2, .inl (K 0, 16, .inl (prR h mk fw i)))] ∧ va_S A s.heap H locs ∧ lv_has ls 5 [(3, .int (nI i)), (0, .ref r0), (1, .int (nI h)), (2, .int mk)]) 0 (Nat.zero_le _) ?_ ?_ ?_
  · intro H locs ls hI
    obtain ⟨hP, hD, hS, hl⟩ := hI
    refine lv_iload_n hx hb dX0_pairRead_2 rfl (lv_at hl 0 rfl) ?_
    refine lv_iload_n hx hb dX0_pairRead_3 rfl (lv_at hl 2 rfl) ?_
    refine lv_icmp_ge (tgt := 73) hx hb dX0_pairRead_4 (by decide) (fun c3 => ?_) (fun c3 => ?_)
    · skip
      have c3 : h ≤ h := (nI_leI (a := h) (b := h) (by omega) (by omega)).mp c3
      exact gW_vret () hx hb hr hlk hK hP hD hS (trivial) dX0_pairRead_73
    · skip
      have c3 : ¬ h ≤ h := fun h9 => c3 ((nI_leI (a := h) (b := h) (by omega) (by omega)).mpr h9)
      omega
  · intro i hi ih2 H locs ls hI
    obtain ⟨hP, hD, hS, hl⟩ := hI
    refine lv_iload_n hx hb dX0_pairRead_2 rfl (lv_at hl 0 rfl) ?_
    refine lv_iload_n hx hb dX0_pairRead_3 rfl (lv_at hl 2 rfl) ?_
    refine lv_icmp_ge (tgt := 73) hx hb dX0_pairRead_4 (by decide) (fun c4 => ?_) (fun c4 => ?_)
    · skip
      have c4 : h ≤ i := (nI_leI (a := h) (b := i) (by omega) (by omega)).mp c4
      omega
    · skip
      have c4 : ¬ h ≤ i := fun h9 => c4 ((nI_leI (a := h) (b := i) (by omega) (by omega)).mpr h9)
      refine lv_iload_n hx hb dX0_pairRead_7 rfl (lv_at hl 3 rfl) ?_
      refine lv_iload_n hx hb dX0_pairRead_8 rfl (lv_at hl 0 rfl) ?_
      refine lv_ishr hx hb dX0_pairRead_9 ?_
      refine lv_iconst (v := 1) hx hb dX0_pairRead_10 (by decide) ?_
      refine lv_iand hx hb dX0_pairRead_11 ?_
      refine lv_eqi (bitI mk i) rfl ?_
      refine lv_iconst (v := 1) hx hb dX0_pairRead_12 (by decide) ?_
      refine g_cut (F0 mm 21 ls [.int (if bitI mk i = 1 then 1 else 0)]) (fun hJ => ?_) ?_
      · refine lv_icmp_ne (tgt := 20) hx hb dX0_pairRead_13 (by decide) (fun c5 => ?_) (fun c5 => ?_)
        · skip
          refine lv_iconst (v := 0) hx hb dX0_pairRead_20 (by decide) ?_
          refine lv_eqi ((if bitI mk i = 1 then 1 else 0)) (if_neg c5).symm ?_
          exact hJ
        · skip
          refine lv_iconst (v := 1) hx hb dX0_pairRead_16 (by decide) ?_
          refine lv_goto (tgt := 21) hx hb dX0_pairRead_17 (by decide) ?_
          refine lv_eqi ((if bitI mk i = 1 then 1 else 0)) (if_pos c5).symm ?_
          exact hJ
      · skip
        refine lv_istore (lv' := [(4, .int (if bitI mk i = 1 then 1 else 0)), (3, .int (nI i)), (0, .ref r0), (1, .int (nI h)), (2, .int mk)]) hx hb dX0_pairRead_21 hl (by decide) rfl (fun ls hl => ?_)
        refine lv_aload_n hx hb dX0_pairRead_23 rfl (lv_at hl 2 rfl) ?_
        refine va_get (D := D) (ci := 0) (v := .ref r2) (C := RX0) (T := TX0) (N := 12) hx hb hts hi0 hown hK hP 0 rfl rfl 1 (by decide) (hts (.fieldLink RX0 15 "PairedChannels$Reading" "row" "[I") (List.mem_of_getElem? (i := 1) (by decide +kernel))) (fun _ h9 => h9) rfl dX0_pairRead_24 ?_
        refine lv_iload_n hx hb dX0_pairRead_27 rfl (lv_at hl 1 rfl) ?_
        refine lv_iload hx hb dX0_pairRead_28 (lv_at hl 0 rfl) ?_
        refine g_cut (F0 mm 66 ls [.int (if bitI mk i = 1 then (fw (i + h) - fw i) else (fw (i + h) + fw i)), .int (nI i), .ref r2]) (fun hJ => ?_) ?_
        · refine lv_if_eq (tgt := 51) hx hb dX0_pairRead_30 (by decide) (fun c7 => ?_) (fun c7 => ?_)
          · skip
            have c7 : ¬ (bitI mk i = 1) := b_eq0 c7
            refine lv_aload_n hx hb dX0_pairRead_51 rfl (lv_at hl 2 rfl) ?_
            refine va_get (D := D) (ci := 0) (v := .ref r2) (C := RX0) (T := TX0) (N := 12) hx hb hts hi0 hown hK hP 0 rfl rfl 1 (by decide) (hts (.fieldLink RX0 15 "PairedChannels$Reading" "row" "[I") (List.mem_of_getElem? (i := 1) (by decide +kernel))) (fun _ h9 => h9) rfl dX0_pairRead_52 ?_
            refine lv_iload_n hx hb dX0_pairRead_55 rfl (lv_at hl 1 rfl) ?_
            refine lv_iload_n hx hb dX0_pairRead_56 rfl (lv_at hl 3 rfl) ?_
            refine lv_iadd hx hb dX0_pairRead_57 ?_
            refine lv_eqi (nI (i + h)) (nI_add i h) ?_
            refine wa_iald hx hb hK hP 1 0 rfl rfl (i + h) rfl (by omega) (by decide) dX0_pairRead_58 ?_
            refine lv_eqi (fw (i + h)) (prR_ge (by omega)) ?_
            refine lv_aload_n hx hb dX0_pairRead_59 rfl (lv_at hl 2 rfl) ?_
            refine va_get (D := D) (ci := 0) (v := .ref r2) (C := RX0) (T := TX0) (N := 12) hx hb hts hi0 hown hK hP 0 rfl rfl 1 (by decide) (hts (.fieldLink RX0 15 "PairedChannels$Reading" "row" "[I") (List.mem_of_getElem? (i := 1) (by decide +kernel))) (fun _ h9 => h9) rfl dX0_pairRead_60 ?_
            refine lv_iload_n hx hb dX0_pairRead_63 rfl (lv_at hl 1 rfl) ?_
            refine wa_iald hx hb hK hP 1 0 rfl rfl (i) rfl (by omega) (by decide) dX0_pairRead_64 ?_
            refine lv_eqi (fw i) (prR_ge (Nat.le_refl i)) ?_
            refine lv_iadd hx hb dX0_pairRead_65 ?_
            refine lv_eqi ((if bitI mk i = 1 then (fw (i + h) - fw i) else (fw (i + h) + fw i))) (if_neg c7).symm ?_
            exact hJ
          · skip
            have c7 : bitI mk i = 1 := b_ne0 c7
            refine lv_aload_n hx hb dX0_pairRead_33 rfl (lv_at hl 2 rfl) ?_
            refine va_get (D := D) (ci := 0) (v := .ref r2) (C := RX0) (T := TX0) (N := 12) hx hb hts hi0 hown hK hP 0 rfl rfl 1 (by decide) (hts (.fieldLink RX0 15 "PairedChannels$Reading" "row" "[I") (List.mem_of_getElem? (i := 1) (by decide +kernel))) (fun _ h9 => h9) rfl dX0_pairRead_34 ?_
            refine lv_iload_n hx hb dX0_pairRead_37 rfl (lv_at hl 1 rfl) ?_
            refine lv_iload_n hx hb dX0_pairRead_38 rfl (lv_at hl 3 rfl) ?_
            refine lv_iadd hx hb dX0_pairRead_39 ?_
            refine lv_eqi (nI (i + h)) (nI_add i h) ?_
            refine wa_iald hx hb hK hP 1 0 rfl rfl (i + h) rfl (by omega) (by decide) dX0_pairRead_40 ?_
            refine lv_eqi (fw (i + h)) (prR_ge (by omega)) ?_
            refine lv_aload_n hx hb dX0_pairRead_41 rfl (lv_at hl 2 rfl) ?_
            refine va_get (D := D) (ci := 0) (v := .ref r2) (C := RX0) (T := TX0) (N := 12) hx hb hts hi0 hown hK hP 0 rfl rfl 1 (by decide) (hts (.fieldLink RX0 15 "PairedChannels$Reading" "row" "[I") (List.mem_of_getElem? (i := 1) (by decide +kernel))) (fun _ h9 => h9) rfl dX0_pairRead_42 ?_
            refine lv_iload_n hx hb dX0_pairRead_45 rfl (lv_at hl 1 rfl) ?_
            refine wa_iald hx hb hK hP 1 0 rfl rfl (i) rfl (by omega) (by decide) dX0_pairRead_46 ?_
            refine lv_eqi (fw i) (prR_ge (Nat.le_refl i)) ?_
            refine lv_isub hx hb dX0_pairRead_47 ?_
            refine lv_goto (tgt := 66) hx hb dX0_pairRead_48 (by decide) ?_
            refine lv_eqi ((if bitI mk i = 1 then (fw (i + h) - fw i) else (fw (i + h) + fw i))) (if_pos c7).symm ?_
            exact hJ
        · skip
          refine wa_iast (x := (if bitI mk i = 1 then (fw (i + h) - fw i) else (fw (i + h) + fw i))) hx hb hK hP hD hS 1 0 rfl rfl (i) rfl (by omega) (by decide) dX0_pairRead_66 (fun H locs hP hD hS => ?_)
          have hP : va_P D vwCl [(r0, .inr (0, [.ref r1, .ref r2, .ref r3, .ref r4, .ref r5, .ref r6, .ref r7, .ref r8, .int ig, .int (nI n), .int ip, .int ir])), (r2, .inl (K 0, 16, .inl (upd (prR h mk fw i) i (if bitI mk i = 1 then (fw (i + h) - fw i) else (fw (i + h) + fw i)))))] _ := hP
          have hD : va_D A [(r0, .inr (0, [.ref r1, .ref r2, .ref r3, .ref r4, .ref r5, .ref r6, .ref r7, .ref r8, .int ig, .int (nI n), .int ip, .int ir])), (r2, .inl (K 0, 16, .inl (upd (prR h mk fw i) i (if bitI mk i = 1 then (fw (i + h) - fw i) else (fw (i + h) + fw i)))))] := hD
          have e8 : (upd (prR h mk fw i) i (if bitI mk i = 1 then (fw (i + h) - fw i) else (fw (i + h) + fw i))) = (prR h mk fw (i + 1)) := prR_s h mk fw i
          rw [e8] at hP hD
          have hP : va_P D vwCl [(r0, .inr (0, [.ref r1, .ref r2, .ref r3, .ref r4, .ref r5, .ref r6, .ref r7, .ref r8, .int ig, .int (nI n), .int ip, .int ir])), (r2, .inl (K 0, 16, .inl (prR h mk fw (i + 1))))] _ := hP
          have hD : va_D A [(r0, .inr (0, [.ref r1, .ref r2, .ref r3, .ref r4, .ref r5, .ref r6, .ref r7, .ref r8, .int ig, .int (nI n), .int ip, .int ir])), (r2, .inl (K 0, 16, .inl (prR h mk fw (i + 1))))] := hD
          refine lv_iinc (v := nI (i + 1)) (lv' := [(3, .int (nI (i + 1))), (4, .int (if bitI mk i = 1 then 1 else 0)), (0, .ref r0), (1, .int (nI h)), (2, .int mk)]) hx hb dX0_pairRead_67 hl (k := 1) rfl (nI_add i 1) (by decide) rfl (fun ls hl => ?_)
          refine lv_goto (tgt := 2) hx hb dX0_pairRead_70 (by decide) ?_
          exact ih2 H locs ls ⟨hP, hD, hS, lv_sub hl [0, 2, 3, 4] rfl⟩
  · exact ⟨hP, hD, hS, lv_sub hl [0, 1, 2, 3] rfl⟩
