set_option maxHeartbeats 4000000 in
set_option maxRecDepth 100000 in
theorem c_X0_pairUnread (l : Launch) (D : va_G) (K : Nat → ClassId) (r0 : Nat) (r1 : Nat) (r2 : Nat) (r3 : Nat) (r4 : Nat) (r5 : Nat) (r6 : Nat) (r7 : Nat) (r8 : Nat) (n : Nat) (ig : Int32) (ip : Int32) (ir : Int32) (h : Nat) (fw : Nat → Int32) (hh : 2 * h ≤ 16) : MWv l yX0_pairUnread wsX0_pairUnread ({ frames := 0, cells := 0, slots := 0, locals := 0 } : Room) D (gTy K) [.ref r0, .int (nI h)] [(r0, .inr (0, [.ref r1, .ref r2, .ref r3, .ref r4, .ref r5, .ref r6, .ref r7, .ref r8, .int ig, .int (nI n), .int ip, .int ir])), (r2, .inl (K 0, 16, .inl fw))] (fun (u : Unit) => [(r0, .inr (0, [.ref r1, .ref r2, .ref r3, .ref r4, .ref r5, .ref r6, .ref r7, .ref r8, .int ig, .int (nI n), .int ip, .int ir])), (r2, .inl (K 0, 16, .inl (puR h fw h)))]) (fun (u : Unit) => True) 0 0 := by
  refine g_ofW (Qc := fun A => va_Qv _ (gB D (gTy K) A _) A) (cc := cX0_pairUnread) (maxL := 8) (ret := none) (own := RX0) (by decide) rfl rfl (Nat.le_of_ble_eq_true rfl) ?_
  intro pp ee s mm below meth cc A hfx hnm hK hP hD hE hS hA ls hl
  obtain ⟨hx, hb, hr, hml, hown, hts, hlk⟩ := hfx
  have hl : lv_has ls 8 [(2, .int 0), (0, .ref r0), (1, .int (nI h))] := hl
  have hi0 : ∀ w ∈ u_ws RX0 TX0 12, w ∈ wsX0_pairUnread := fun w h => List.mem_cons_of_mem _ (List.mem_append_right _ (h))
  refine lv_iconst (v := 0) hx hb dX0_pairUnread_0 (by decide) ?_
  refine lv_istore_n (lv' := [(2, .int 0), (0, .ref r0), (1, .int (nI h))]) hx hb dX0_pairUnread_1 rfl hl (by decide) rfl (fun ls hl => ?_)
  have e1 : fw = (puR h fw 0) := (puR_0 h fw).symm
  rw [e1] at hP hD
  have hP : va_P D vwCl [(r0, .inr (0, [.ref r1, .ref r2, .ref r3, .ref r4, .ref r5, .ref r6, .ref r7, .ref r8, .int ig, .int (nI n), .int ip, .int ir])), (r2, .inl (K 0, 16, .inl (puR h fw 0)))] H := hP
  have hD : va_D A [(r0, .inr (0, [.ref r1, .ref r2, .ref r3, .ref r4, .ref r5, .ref r6, .ref r7, .ref r8, .int ig, .int (nI n), .int ip, .int ir])), (r2, .inl (K 0, 16, .inl (puR h fw 0)))] := hD
  refine g_loopW (st := []) (N := h) (fun i H locs ls => va_P D vwCl [(r0, .inr (0, [.ref r1, .ref r2, .ref r3, .ref r4, .ref r5, .ref r6, .ref r7, .ref r8, .int ig, .int (nI n), .int ip, .int ir])), (r2, .inl (K 0, 16, .inl (puR h fw i)))] H ∧ va_D A [(r0, .inr (0, [.ref r1, .ref r2, .ref r3, .ref r4, .ref r5, .ref r6, .ref r7, .ref r8, .int ig, .int (nI n), .int ip, .int ir])), (r2, .inl (K 0, 16, .inl (puR h fw i)))] ∧ va_S A s.heap H locs ∧ lv_has ls 8 [(2, .int (nI i)), (0, .ref r0), (1, .int (nI h))]) 0 (Nat.zero_le _) ?_ ?_ ?_
  · intro H locs ls hI
    obtain ⟨hP, hD, hS, hl⟩ := hI
    refine lv_iload_n hx hb dX0_pairUnread_2 rfl (lv_at hl 0 rfl) ?_
    refine lv_iload_n hx hb dX0_pairUnread_3 rfl (lv_at hl 2 rfl) ?_
    refine lv_icmp_ge (tgt := 109) hx hb dX0_pairUnread_4 (by decide) (fun c3 => ?_) (fun c3 => ?_)
    · skip
      have c3 : h ≤ h := (nI_leI (a := h) (b := h) (by omega) (by omega)).mp c3
      exact gW_vret () hx hb hr hlk hK hP hD hS (trivial) dX0_pairUnread_109
    · skip
      have c3 : ¬ h ≤ h := fun h9 => c3 ((nI_leI (a := h) (b := h) (by omega) (by omega)).mpr h9)
      omega
  · intro i hi ih2 H locs ls hI
    obtain ⟨hP, hD, hS, hl⟩ := hI
    refine lv_iload_n hx hb dX0_pairUnread_2 rfl (lv_at hl 0 rfl) ?_
    refine lv_iload_n hx hb dX0_pairUnread_3 rfl (lv_at hl 2 rfl) ?_
    refine lv_icmp_ge (tgt := 109) hx hb dX0_pairUnread_4 (by decide) (fun c4 => ?_) (fun c4 => ?_)
    · skip
      have c4 : h ≤ i := (nI_leI (a := h) (b := i) (by omega) (by omega)).mp c4
      omega
    · skip
      have c4 : ¬ h ≤ i := fun h9 => c4 ((nI_leI (a := h) (b := i) (by omega) (by omega)).mpr h9)
      refine lv_aload_n hx hb dX0_pairUnread_7 rfl (lv_at hl 1 rfl) ?_
      refine va_get (D := D) (ci := 0) (v := .ref r2) (C := RX0) (T := TX0) (N := 12) hx hb hts hi0 hown hK hP 0 rfl rfl 1 (by decide) (hts (.fieldLink RX0 15 "PairedChannels$Reading" "row" "[I") (List.mem_of_getElem? (i := 1) (by decide +kernel))) (fun _ h9 => h9) rfl dX0_pairUnread_8 ?_
      refine lv_iload_n hx hb dX0_pairUnread_11 rfl (lv_at hl 0 rfl) ?_
      refine wa_iald hx hb hK hP 1 0 rfl rfl (i) rfl (by omega) (by decide) dX0_pairUnread_12 ?_
      refine lv_eqi (fw i) (puR_ge (Nat.le_refl i)) ?_
      refine lv_istore_n (lv' := [(3, .int (fw i)), (2, .int (nI i)), (0, .ref r0), (1, .int (nI h))]) hx hb dX0_pairUnread_13 rfl hl (by decide) rfl (fun ls hl => ?_)
      refine lv_aload_n hx hb dX0_pairUnread_14 rfl (lv_at hl 2 rfl) ?_
      refine va_get (D := D) (ci := 0) (v := .ref r2) (C := RX0) (T := TX0) (N := 12) hx hb hts hi0 hown hK hP 0 rfl rfl 1 (by decide) (hts (.fieldLink RX0 15 "PairedChannels$Reading" "row" "[I") (List.mem_of_getElem? (i := 1) (by decide +kernel))) (fun _ h9 => h9) rfl dX0_pairUnread_15 ?_
      refine lv_iload_n hx hb dX0_pairUnread_18 rfl (lv_at hl 1 rfl) ?_
      refine lv_iload_n hx hb dX0_pairUnread_19 rfl (lv_at hl 3 rfl) ?_
      refine lv_iadd hx hb dX0_pairUnread_20 ?_
      refine lv_eqi (nI (i + h)) (nI_add i h) ?_
      refine wa_iald hx hb hK hP 1 0 rfl rfl (i + h) rfl (by omega) (by decide) dX0_pairUnread_21 ?_
      refine lv_eqi (fw (i + h)) (puR_ge (by omega)) ?_
      refine lv_istore (lv' := [(4, .int (fw (i + h))), (3, .int (fw i)), (2, .int (nI i)), (0, .ref r0), (1, .int (nI h))]) hx hb dX0_pairUnread_22 hl (by decide) rfl (fun ls hl => ?_)
      refine lv_iload_n hx hb dX0_pairUnread_24 rfl (lv_at hl 1 rfl) ?_
      refine g_cut (F0 mm 34 ls [.int (if 0 ≤ fw i then fw i else (-(fw i)))]) (fun hJ => ?_) ?_
      · refine lv_if_ge (tgt := 33) hx hb dX0_pairUnread_25 (by decide) (fun c5 => ?_) (fun c5 => ?_)
        · skip
          refine lv_iload_n hx hb dX0_pairUnread_33 rfl (lv_at hl 1 rfl) ?_
          rw [if_pos c5] at hJ
          exact hJ
        · skip
          refine lv_iload_n hx hb dX0_pairUnread_28 rfl (lv_at hl 1 rfl) ?_
          refine lv_ineg hx hb dX0_pairUnread_29 ?_
          refine lv_goto (tgt := 34) hx hb dX0_pairUnread_30 (by decide) ?_
          rw [if_neg c5] at hJ
          exact hJ
      · skip
        refine lv_eqi (absI (fw i)) (abs3 _) ?_
        refine lv_istore (lv' := [(5, .int (absI (fw i))), (4, .int (fw (i + h))), (3, .int (fw i)), (2, .int (nI i)), (0, .ref r0), (1, .int (nI h))]) hx hb dX0_pairUnread_34 hl (by decide) rfl (fun ls hl => ?_)
        refine lv_iload hx hb dX0_pairUnread_36 (lv_at hl 1 rfl) ?_
        refine g_cut (F0 mm 49 ls [.int (if 0 ≤ fw (i + h) then fw (i + h) else (-(fw (i + h))))]) (fun hJ => ?_) ?_
        · refine lv_if_ge (tgt := 47) hx hb dX0_pairUnread_38 (by decide) (fun c6 => ?_) (fun c6 => ?_)
          · skip
            refine lv_iload hx hb dX0_pairUnread_47 (lv_at hl 1 rfl) ?_
            rw [if_pos c6] at hJ
            exact hJ
          · skip
            refine lv_iload hx hb dX0_pairUnread_41 (lv_at hl 1 rfl) ?_
            refine lv_ineg hx hb dX0_pairUnread_43 ?_
            refine lv_goto (tgt := 49) hx hb dX0_pairUnread_44 (by decide) ?_
            rw [if_neg c6] at hJ
            exact hJ
        · skip
          refine lv_eqi (absI (fw (i + h))) (abs3 _) ?_
          refine lv_istore (lv' := [(6, .int (absI (fw (i + h)))), (5, .int (absI (fw i))), (4, .int (fw (i + h))), (3, .int (fw i)), (2, .int (nI i)), (0, .ref r0), (1, .int (nI h))]) hx hb dX0_pairUnread_49 hl (by decide) rfl (fun ls hl => ?_)
          refine lv_iload hx hb dX0_pairUnread_51 (lv_at hl 1 rfl) ?_
          refine lv_iload hx hb dX0_pairUnread_53 (lv_at hl 0 rfl) ?_
          refine g_cut (F0 mm 65 ls [.int (if absI (fw (i + h)) ≤ absI (fw i) then absI (fw (i + h)) else absI (fw i))]) (fun hJ => ?_) ?_
          · refine lv_icmp_ge (tgt := 63) hx hb dX0_pairUnread_55 (by decide) (fun c7 => ?_) (fun c7 => ?_)
            · skip
              refine lv_iload hx hb dX0_pairUnread_63 (lv_at hl 0 rfl) ?_
              rw [if_pos c7] at hJ
              exact hJ
            · skip
              refine lv_iload hx hb dX0_pairUnread_58 (lv_at hl 1 rfl) ?_
              refine lv_goto (tgt := 65) hx hb dX0_pairUnread_60 (by decide) ?_
              rw [if_neg c7] at hJ
              exact hJ
          · skip
            refine lv_eqi ((if absI (fw i) < absI (fw (i + h)) then absI (fw i) else absI (fw (i + h)))) (min_eq _ _) ?_
            refine lv_istore (lv' := [(7, .int (if absI (fw i) < absI (fw (i + h)) then absI (fw i) else absI (fw (i + h)))), (6, .int (absI (fw (i + h)))), (5, .int (absI (fw i))), (4, .int (fw (i + h))), (3, .int (fw i)), (2, .int (nI i)), (0, .ref r0), (1, .int (nI h))]) hx hb dX0_pairUnread_65 hl (by decide) rfl (fun ls hl => ?_)
            refine lv_aload_n hx hb dX0_pairUnread_67 rfl (lv_at hl 6 rfl) ?_
            refine va_get (D := D) (ci := 0) (v := .ref r2) (C := RX0) (T := TX0) (N := 12) hx hb hts hi0 hown hK hP 0 rfl rfl 1 (by decide) (hts (.fieldLink RX0 15 "PairedChannels$Reading" "row" "[I") (List.mem_of_getElem? (i := 1) (by decide +kernel))) (fun _ h9 => h9) rfl dX0_pairUnread_68 ?_
            refine lv_iload_n hx hb dX0_pairUnread_71 rfl (lv_at hl 5 rfl) ?_
            refine lv_iload_n hx hb dX0_pairUnread_72 rfl (lv_at hl 4 rfl) ?_
            refine g_cut (F0 mm 81 ls [.int (if ¬ (0 ≤ fw i) then 1 else 0), .int (nI i), .ref r2]) (fun hJ => ?_) ?_
            · refine lv_if_ge (tgt := 80) hx hb dX0_pairUnread_73 (by decide) (fun c8 => ?_) (fun c8 => ?_)
              · skip
                refine lv_iconst (v := 0) hx hb dX0_pairUnread_80 (by decide) ?_
                rw [if_neg (fun h => h c8)] at hJ
                exact hJ
              · skip
                refine lv_iconst (v := 1) hx hb dX0_pairUnread_76 (by decide) ?_
                refine lv_goto (tgt := 81) hx hb dX0_pairUnread_77 (by decide) ?_
                rw [if_pos (by first | exact c8 | exact Decidable.not_not.mp c8 | exact (by simpa using c8))] at hJ
                exact hJ
            · skip
              refine lv_iload hx hb dX0_pairUnread_81 (lv_at hl 3 rfl) ?_
              refine g_cut (F0 mm 91 ls [.int (if ¬ (0 ≤ fw (i + h)) then 1 else 0), .int (if ¬ (0 ≤ fw i) then 1 else 0), .int (nI i), .ref r2]) (fun hJ => ?_) ?_
              · refine lv_if_ge (tgt := 90) hx hb dX0_pairUnread_83 (by decide) (fun c10 => ?_) (fun c10 => ?_)
                · skip
                  refine lv_iconst (v := 0) hx hb dX0_pairUnread_90 (by decide) ?_
                  rw [if_neg (fun h => h c10)] at hJ
                  exact hJ
                · skip
                  refine lv_iconst (v := 1) hx hb dX0_pairUnread_86 (by decide) ?_
                  refine lv_goto (tgt := 91) hx hb dX0_pairUnread_87 (by decide) ?_
                  rw [if_pos (by first | exact c10 | exact Decidable.not_not.mp c10 | exact (by simpa using c10))] at hJ
                  exact hJ
              · skip
                refine g_cut (F0 mm 102 ls [.int (if (if ¬ (0 ≤ fw i) then 1 else 0) = (if ¬ (0 ≤ fw (i + h)) then 1 else 0) then (if absI (fw i) < absI (fw (i + h)) then absI (fw i) else absI (fw (i + h))) else (-(if absI (fw i) < absI (fw (i + h)) then absI (fw i) else absI (fw (i + h))))), .int (nI i), .ref r2]) (fun hJ => ?_) ?_
                · refine lv_icmp_ne (tgt := 99) hx hb dX0_pairUnread_91 (by decide) (fun c12 => ?_) (fun c12 => ?_)
                  · skip
                    refine lv_iload hx hb dX0_pairUnread_99 (lv_at hl 0 rfl) ?_
                    refine lv_ineg hx hb dX0_pairUnread_101 ?_
                    rw [if_neg c12] at hJ
                    exact hJ
                  · skip
                    refine lv_iload hx hb dX0_pairUnread_94 (lv_at hl 0 rfl) ?_
                    refine lv_goto (tgt := 102) hx hb dX0_pairUnread_96 (by decide) ?_
                    rw [if_pos c12] at hJ
                    exact hJ
                · skip
                  refine lv_eqi (pu (fw i) (fw (i + h))) (pu_eq _ _) ?_
                  refine wa_iast (x := pu (fw i) (fw (i + h))) hx hb hK hP hD hS 1 0 rfl rfl (i) rfl (by omega) (by decide) dX0_pairUnread_102 (fun H locs hP hD hS => ?_)
                  have hP : va_P D vwCl [(r0, .inr (0, [.ref r1, .ref r2, .ref r3, .ref r4, .ref r5, .ref r6, .ref r7, .ref r8, .int ig, .int (nI n), .int ip, .int ir])), (r2, .inl (K 0, 16, .inl (upd (puR h fw i) i (pu (fw i) (fw (i + h))))))] H := hP
                  have hD : va_D A [(r0, .inr (0, [.ref r1, .ref r2, .ref r3, .ref r4, .ref r5, .ref r6, .ref r7, .ref r8, .int ig, .int (nI n), .int ip, .int ir])), (r2, .inl (K 0, 16, .inl (upd (puR h fw i) i (pu (fw i) (fw (i + h))))))] := hD
                  have e13 : (upd (puR h fw i) i (pu (fw i) (fw (i + h)))) = (puR h fw (i + 1)) := puR_s h fw i
                  rw [e13] at hP hD
                  have hP : va_P D vwCl [(r0, .inr (0, [.ref r1, .ref r2, .ref r3, .ref r4, .ref r5, .ref r6, .ref r7, .ref r8, .int ig, .int (nI n), .int ip, .int ir])), (r2, .inl (K 0, 16, .inl (puR h fw (i + 1))))] H := hP
                  have hD : va_D A [(r0, .inr (0, [.ref r1, .ref r2, .ref r3, .ref r4, .ref r5, .ref r6, .ref r7, .ref r8, .int ig, .int (nI n), .int ip, .int ir])), (r2, .inl (K 0, 16, .inl (puR h fw (i + 1))))] := hD
                  refine lv_iinc (v := nI (i + 1)) (lv' := [(2, .int (nI (i + 1))), (7, .int (if absI (fw i) < absI (fw (i + h)) then absI (fw i) else absI (fw (i + h)))), (6, .int (absI (fw (i + h)))), (5, .int (absI (fw i))), (4, .int (fw (i + h))), (3, .int (fw i)), (0, .ref r0), (1, .int (nI h))]) hx hb dX0_pairUnread_103 hl (k := 5) rfl (nI_add i 1) (by decide) rfl (fun ls hl => ?_)
                  refine lv_goto (tgt := 2) hx hb dX0_pairUnread_106 (by decide) ?_
                  exact ih2 H locs ls ⟨hP, hD, hS, lv_sub hl [0, 6, 7] rfl⟩
  · exact ⟨hP, hD, hS, lv_sub hl [0, 1, 2] rfl⟩

set_option maxHeartbeats 4000000 in
set_option maxRecDepth 100000 in
theorem c_X0_pairRead (l : Launch) (D : va_G) (K : Nat → ClassId) (r0 : Nat) (r1 : Nat) (r2 : Nat) (r3 : Nat) (r4 : Nat) (r5 : Nat) (r6 : Nat) (r7 : Nat) (r8 : Nat) (n : Nat) (ig : Int32) (ip : Int32) (ir : Int32) (h : Nat) (mk : Int32) (fw : Nat → Int32) (hh : 2 * h ≤ 16) : MWv l yX0_pairRead wsX0_pairRead ({ frames := 0, cells := 0, slots := 0, locals := 0 } : Room) D (gTy K) [.ref r0, .int (nI h), .int mk] [(r0, .inr (0, [.ref r1, .ref r2, .ref r3, .ref r4, .ref r5, .ref r6, .ref r7, .ref r8, .int ig, .int (nI n), .int ip, .int ir])), (r2, .inl (K 0, 16, .inl fw))] (fun (u : Unit) => [(r0, .inr (0, [.ref r1, .ref r2, .ref r3, .ref r4, .ref r5, .ref r6, .ref r7, .ref r8, .int ig, .int (nI n), .int ip, .int ir])), (r2, .inl (K 0, 16, .inl (prR h mk fw h)))]) (fun (u : Unit) => True) 0 0 := by
  refine g_ofW (Qc := fun A => va_Qv _ (gB D (gTy K) A _) A) (cc := cX0_pairRead) (maxL := 5) (ret := none) (own := RX0) (by decide) rfl rfl (Nat.le_of_ble_eq_true rfl) ?_
  intro pp ee s mm below meth cc A hfx hnm hK hP hD hE hS hA ls hl
  obtain ⟨hx, hb, hr, hml, hown, hts, hlk⟩ := hfx
  have hl : lv_has ls 5 [(3, .int 0), (0, .ref r0), (1, .int (nI h)), (2, .int mk)] := hl
  have hi0 : ∀ w ∈ u_ws RX0 TX0 12, w ∈ wsX0_pairRead := fun w h => List.mem_cons_of_mem _ (List.mem_append_right _ (h))
  refine lv_iconst (v := 0) hx hb dX0_pairRead_0 (by decide) ?_
  refine lv_istore_n (lv' := [(3, .int 0), (0, .ref r0), (1, .int (nI h)), (2, .int mk)]) hx hb dX0_pairRead_1 rfl hl (by decide) rfl (fun ls hl => ?_)
  have e1 : fw = (prR h mk fw 0) := (prR_0 h mk fw).symm
  rw [e1] at hP hD
  have hP : va_P D vwCl [(r0, .inr (0, [.ref r1, .ref r2, .ref r3, .ref r4, .ref r5, .ref r6, .ref r7, .ref r8, .int ig, .int (nI n), .int ip, .int ir])), (r2, .inl (K 0, 16, .inl (prR h mk fw 0)))] H := hP
  have hD : va_D A [(r0, .inr (0, [.ref r1, .ref r2, .ref r3, .ref r4, .ref r5, .ref r6, .ref r7, .ref r8, .int ig, .int (nI n), .int ip, .int ir])), (r2, .inl (K 0, 16, .inl (prR h mk fw 0)))] := hD
  refine g_loopW (st := []) (N := h) (fun i H locs ls => va_P D vwCl [(r0, .inr (0, [.ref r1, .ref r2, .ref r3, .ref r4, .ref r5, .ref r6, .ref r7, .ref r8, .int ig, .int (nI n), .int ip, .int ir])), (r2, .inl (K 0, 16, .inl (prR h mk fw i)))] H ∧ va_D A [(r0, .inr (0, [.ref r1, .ref r2, .ref r3, .ref r4, .ref r5, .ref r6, .ref r7, .ref r8, .int ig, .int (nI n), .int ip, .int ir])), (r2, .inl (K 0, 16, .inl (prR h mk fw i)))] ∧ va_S A s.heap H locs ∧ lv_has ls 5 [(3, .int (nI i)), (0, .ref r0), (1, .int (nI h)), (2, .int mk)]) 0 (Nat.zero_le _) ?_ ?_ ?_
  · intro H locs ls hI
    obtain ⟨hP, hD, hS, hl⟩ := hI
    refine lv_iload_n hx hb dX0_pairRead_2 rfl (lv_at hl 0 rfl) ?_
    refine lv_iload_n hx hb dX0_pairRead_3 rfl (lv_at hl 2 rfl) ?_
    refine lv_icmp_ge (tgt := 73) hx hb dX0_pairRead_4 (by decide) (fun c3 => ?_) (fun c3 => ?_)
    · skip
      have c3 : h ≤ h := (nI_leI (a := h) (b := h) (by omega) (by omega)).mp c3
      exact gW_vret () hx hb hr hlk hK hP hD hS (trivial) dX0_pairRead_73
    · skip
      have c3 : ¬ h ≤ h := fun h9 => c3 ((nI_leI (a := h) (b := h) (by omega) (by omega)).mpr h9)
      omega
  · intro i hi ih2 H locs ls hI
    obtain ⟨hP, hD, hS, hl⟩ := hI
    refine lv_iload_n hx hb dX0_pairRead_2 rfl (lv_at hl 0 rfl) ?_
    refine lv_iload_n hx hb dX0_pairRead_3 rfl (lv_at hl 2 rfl) ?_
    refine lv_icmp_ge (tgt := 73) hx hb dX0_pairRead_4 (by decide) (fun c4 => ?_) (fun c4 => ?_)
    · skip
      have c4 : h ≤ i := (nI_leI (a := h) (b := i) (by omega) (by omega)).mp c4
      omega
    · skip
      have c4 : ¬ h ≤ i := fun h9 => c4 ((nI_leI (a := h) (b := i) (by omega) (by omega)).mpr h9)
      refine lv_iload_n hx hb dX0_pairRead_7 rfl (lv_at hl 3 rfl) ?_
      refine lv_iload_n hx hb dX0_pairRead_8 rfl (lv_at hl 0 rfl) ?_
      refine lv_ishr hx hb dX0_pairRead_9 ?_
      refine lv_iconst (v := 1) hx hb dX0_pairRead_10 (by decide) ?_
      refine lv_iand hx hb dX0_pairRead_11 ?_
      refine lv_eqi (bitI mk i) rfl ?_
      refine lv_iconst (v := 1) hx hb dX0_pairRead_12 (by decide) ?_
      refine g_cut (F0 mm 21 ls [.int (if bitI mk i = 1 then 1 else 0)]) (fun hJ => ?_) ?_
      · refine lv_icmp_ne (tgt := 20) hx hb dX0_pairRead_13 (by decide) (fun c5 => ?_) (fun c5 => ?_)
        · skip
          refine lv_iconst (v := 0) hx hb dX0_pairRead_20 (by decide) ?_
          rw [if_neg (fun h => h c5)] at hJ
          exact hJ
        · skip
          refine lv_iconst (v := 1) hx hb dX0_pairRead_16 (by decide) ?_
          refine lv_goto (tgt := 21) hx hb dX0_pairRead_17 (by decide) ?_
          rw [if_pos (by first | exact c5 | exact Decidable.not_not.mp c5 | exact (by simpa using c5))] at hJ
          exact hJ
      · skip
        refine lv_istore (lv' := [(4, .int (if bitI mk i = 1 then 1 else 0)), (3, .int (nI i)), (0, .ref r0), (1, .int (nI h)), (2, .int mk)]) hx hb dX0_pairRead_21 hl (by decide) rfl (fun ls hl => ?_)
        refine lv_aload_n hx hb dX0_pairRead_23 rfl (lv_at hl 2 rfl) ?_
        refine va_get (D := D) (ci := 0) (v := .ref r2) (C := RX0) (T := TX0) (N := 12) hx hb hts hi0 hown hK hP 0 rfl rfl 1 (by decide) (hts (.fieldLink RX0 15 "PairedChannels$Reading" "row" "[I") (List.mem_of_getElem? (i := 1) (by decide +kernel))) (fun _ h9 => h9) rfl dX0_pairRead_24 ?_
        refine lv_iload_n hx hb dX0_pairRead_27 rfl (lv_at hl 1 rfl) ?_
        refine lv_iload hx hb dX0_pairRead_28 (lv_at hl 0 rfl) ?_
        refine g_cut (F0 mm 66 ls [.int (if bitI mk i = 1 then (fw (i + h) - fw i) else (fw (i + h) + fw i)), .int (nI i), .ref r2]) (fun hJ => ?_) ?_
        · refine lv_if_eq (tgt := 51) hx hb dX0_pairRead_30 (by decide) (fun c7 => ?_) (fun c7 => ?_)
          · skip
            have c7 : ¬ (bitI mk i = 1) := b_eq0 c7
            refine lv_aload_n hx hb dX0_pairRead_51 rfl (lv_at hl 2 rfl) ?_
            refine va_get (D := D) (ci := 0) (v := .ref r2) (C := RX0) (T := TX0) (N := 12) hx hb hts hi0 hown hK hP 0 rfl rfl 1 (by decide) (hts (.fieldLink RX0 15 "PairedChannels$Reading" "row" "[I") (List.mem_of_getElem? (i := 1) (by decide +kernel))) (fun _ h9 => h9) rfl dX0_pairRead_52 ?_
            refine lv_iload_n hx hb dX0_pairRead_55 rfl (lv_at hl 1 rfl) ?_
            refine lv_iload_n hx hb dX0_pairRead_56 rfl (lv_at hl 3 rfl) ?_
            refine lv_iadd hx hb dX0_pairRead_57 ?_
            refine lv_eqi (nI (i + h)) (nI_add i h) ?_
            refine wa_iald hx hb hK hP 1 0 rfl rfl (i + h) rfl (by omega) (by decide) dX0_pairRead_58 ?_
            refine lv_eqi (fw (i + h)) (prR_ge (by omega)) ?_
            refine lv_aload_n hx hb dX0_pairRead_59 rfl (lv_at hl 2 rfl) ?_
            refine va_get (D := D) (ci := 0) (v := .ref r2) (C := RX0) (T := TX0) (N := 12) hx hb hts hi0 hown hK hP 0 rfl rfl 1 (by decide) (hts (.fieldLink RX0 15 "PairedChannels$Reading" "row" "[I") (List.mem_of_getElem? (i := 1) (by decide +kernel))) (fun _ h9 => h9) rfl dX0_pairRead_60 ?_
            refine lv_iload_n hx hb dX0_pairRead_63 rfl (lv_at hl 1 rfl) ?_
            refine wa_iald hx hb hK hP 1 0 rfl rfl (i) rfl (by omega) (by decide) dX0_pairRead_64 ?_
            refine lv_eqi (fw i) (prR_ge (Nat.le_refl i)) ?_
            refine lv_iadd hx hb dX0_pairRead_65 ?_
            rw [if_neg c7] at hJ
            exact hJ
          · skip
            have c7 : bitI mk i = 1 := b_ne0 c7
            refine lv_aload_n hx hb dX0_pairRead_33 rfl (lv_at hl 2 rfl) ?_
            refine va_get (D := D) (ci := 0) (v := .ref r2) (C := RX0) (T := TX0) (N := 12) hx hb hts hi0 hown hK hP 0 rfl rfl 1 (by decide) (hts (.fieldLink RX0 15 "PairedChannels$Reading" "row" "[I") (List.mem_of_getElem? (i := 1) (by decide +kernel))) (fun _ h9 => h9) rfl dX0_pairRead_34 ?_
            refine lv_iload_n hx hb dX0_pairRead_37 rfl (lv_at hl 1 rfl) ?_
            refine lv_iload_n hx hb dX0_pairRead_38 rfl (lv_at hl 3 rfl) ?_
            refine lv_iadd hx hb dX0_pairRead_39 ?_
            refine lv_eqi (nI (i + h)) (nI_add i h) ?_
            refine wa_iald hx hb hK hP 1 0 rfl rfl (i + h) rfl (by omega) (by decide) dX0_pairRead_40 ?_
            refine lv_eqi (fw (i + h)) (prR_ge (by omega)) ?_
            refine lv_aload_n hx hb dX0_pairRead_41 rfl (lv_at hl 2 rfl) ?_
            refine va_get (D := D) (ci := 0) (v := .ref r2) (C := RX0) (T := TX0) (N := 12) hx hb hts hi0 hown hK hP 0 rfl rfl 1 (by decide) (hts (.fieldLink RX0 15 "PairedChannels$Reading" "row" "[I") (List.mem_of_getElem? (i := 1) (by decide +kernel))) (fun _ h9 => h9) rfl dX0_pairRead_42 ?_
            refine lv_iload_n hx hb dX0_pairRead_45 rfl (lv_at hl 1 rfl) ?_
            refine wa_iald hx hb hK hP 1 0 rfl rfl (i) rfl (by omega) (by decide) dX0_pairRead_46 ?_
            refine lv_eqi (fw i) (prR_ge (Nat.le_refl i)) ?_
            refine lv_isub hx hb dX0_pairRead_47 ?_
            refine lv_goto (tgt := 66) hx hb dX0_pairRead_48 (by decide) ?_
            rw [if_pos c7] at hJ
            exact hJ
        · skip
          refine wa_iast (x := (if bitI mk i = 1 then (fw (i + h) - fw i) else (fw (i + h) + fw i))) hx hb hK hP hD hS 1 0 rfl rfl (i) rfl (by omega) (by decide) dX0_pairRead_66 (fun H locs hP hD hS => ?_)
          have hP : va_P D vwCl [(r0, .inr (0, [.ref r1, .ref r2, .ref r3, .ref r4, .ref r5, .ref r6, .ref r7, .ref r8, .int ig, .int (nI n), .int ip, .int ir])), (r2, .inl (K 0, 16, .inl (upd (prR h mk fw i) i (if bitI mk i = 1 then (fw (i + h) - fw i) else (fw (i + h) + fw i)))))] H := hP
          have hD : va_D A [(r0, .inr (0, [.ref r1, .ref r2, .ref r3, .ref r4, .ref r5, .ref r6, .ref r7, .ref r8, .int ig, .int (nI n), .int ip, .int ir])), (r2, .inl (K 0, 16, .inl (upd (prR h mk fw i) i (if bitI mk i = 1 then (fw (i + h) - fw i) else (fw (i + h) + fw i)))))] := hD
          have e8 : (upd (prR h mk fw i) i (if bitI mk i = 1 then (fw (i + h) - fw i) else (fw (i + h) + fw i))) = (prR h mk fw (i + 1)) := prR_s h mk fw i
          rw [e8] at hP hD
          have hP : va_P D vwCl [(r0, .inr (0, [.ref r1, .ref r2, .ref r3, .ref r4, .ref r5, .ref r6, .ref r7, .ref r8, .int ig, .int (nI n), .int ip, .int ir])), (r2, .inl (K 0, 16, .inl (prR h mk fw (i + 1))))] H := hP
          have hD : va_D A [(r0, .inr (0, [.ref r1, .ref r2, .ref r3, .ref r4, .ref r5, .ref r6, .ref r7, .ref r8, .int ig, .int (nI n), .int ip, .int ir])), (r2, .inl (K 0, 16, .inl (prR h mk fw (i + 1))))] := hD
          refine lv_iinc (v := nI (i + 1)) (lv' := [(3, .int (nI (i + 1))), (4, .int (if bitI mk i = 1 then 1 else 0)), (0, .ref r0), (1, .int (nI h)), (2, .int mk)]) hx hb dX0_pairRead_67 hl (k := 1) rfl (nI_add i 1) (by decide) rfl (fun ls hl => ?_)
          refine lv_goto (tgt := 2) hx hb dX0_pairRead_70 (by decide) ?_
          exact ih2 H locs ls ⟨hP, hD, hS, lv_sub hl [0, 2, 3, 4] rfl⟩
  · exact ⟨hP, hD, hS, lv_sub hl [0, 1, 2, 3] rfl⟩

set_option maxHeartbeats 4000000 in
set_option maxRecDepth 100000 in
theorem c_X0_hear (l : Launch) (D : va_G) (K : Nat → ClassId) (r0 : Nat) (r1 : Nat) (r2 : Nat) (r3 : Nat) (r4 : Nat) (r5 : Nat) (r6 : Nat) (r7 : Nat) (r8 : Nat) (n : Nat) (ig : Int32) (ip : Int32) (ir : Int32) (b : Int32) (pl : Nat) (fr : Nat → Int32) (fw : Nat → Int32) (hn : okN n) (hp : pl < n) : MWi l yX0_hear wsX0_hear ({ frames := 1, cells := 0, slots := 0, locals := 40 } : Room) D (gTy K) [.ref r0, .int b, .int (nI pl)] [(r0, .inr (0, [.ref r1, .ref r2, .ref r3, .ref r4, .ref r5, .ref r6, .ref r7, .ref r8, .int ig, .int (nI n), .int ip, .int ir])), (r1, .inl (K 0, 16, .inl fr)), (r2, .inl (K 0, 16, .inl fw))] (fun (u : Nat → Int32) => [(r0, .inr (0, [.ref r1, .ref r2, .ref r3, .ref r4, .ref r5, .ref r6, .ref r7, .ref r8, .int ig, .int (nI n), .int ip, .int ir])), (r1, .inl (K 0, 16, .inl fr)), (r2, .inl (K 0, 16, .inl u))]) (fun r (u : Nat → Int32) => r = hea n fr pl b) 0 0 := by
  refine g_ofW (Qc := fun A => va_Qi _ (gB D (gTy K) A _) A) (cc := cX0_hear) (maxL := 6) (ret := (some .int)) (own := RX0) (by decide) rfl rfl (Nat.le_of_ble_eq_true rfl) ?_
  intro pp ee s mm below meth cc A hfx hnm hK hP hD hE hS hA ls hl
  obtain ⟨hx, hb, hr, hml, hown, hts, hlk⟩ := hfx
  have hl : lv_has ls 6 [(4, .int (nI (2 ^ (lg n) / 2))), (3, .int (nI pl)), (0, .ref r0), (1, .int b), (2, .int (nI pl))] := hl
  have hi0 : ∀ w ∈ u_ws RX0 TX0 12, w ∈ wsX0_hear := fun w h => List.mem_cons_of_mem _ (List.mem_append_right _ (h))
  have hnl := hn.le
  refine lv_aload_n hx hb dX0_hear_0 rfl (lv_at hl 0 rfl) ?_
  refine va_get (D := D) (ci := 0) (v := .ref r1) (C := RX0) (T := TX0) (N := 12) hx hb hts hi0 hown hK hP 0 rfl rfl 0 (by decide) (hts (.fieldLink RX0 9 "PairedChannels$Reading" "received" "[I") (List.mem_of_getElem? (i := 1) (by decide +kernel))) (fun _ h9 => h9) rfl dX0_hear_1 ?_
  refine lv_iconst (v := 0) hx hb dX0_hear_4 (by decide) ?_
  refine lv_aload_n hx hb dX0_hear_5 rfl (lv_at hl 0 rfl) ?_
  refine va_get (D := D) (ci := 0) (v := .ref r2) (C := RX0) (T := TX0) (N := 12) hx hb hts hi0 hown hK hP 0 rfl rfl 1 (by decide) (hts (.fieldLink RX0 15 "PairedChannels$Reading" "row" "[I") (List.mem_of_getElem? (i := 2) (by decide +kernel))) (fun _ h9 => h9) rfl dX0_hear_6 ?_
  refine lv_iconst (v := 0) hx hb dX0_hear_9 (by decide) ?_
  refine lv_bipush (v := 16) hx hb dX0_hear_10 (by decide) ?_
  refine va_copyi (ty := .int) hx hb (hml.trans hl.1.symm) hown (hts (.methodLink RX0 101 arraycopyName) (List.mem_of_getElem? (i := 3) (by decide +kernel))) (hts (.native arraycopyName) (List.mem_of_getElem? (i := 4) (by decide +kernel))) (hts (.static arraycopyName) (List.mem_of_getElem? (i := 5) (by decide +kernel))) (hts (.initialized "java/lang/System") (List.mem_of_getElem? (i := 6) (by decide +kernel))) hK hP hD hS 1 2 0 0 rfl rfl rfl rfl rfl (by decide) (by decide) (by decide) (by decide) (by decide) (fun _ _ => rfl) (Nat.le_of_ble_eq_true rfl) (by decide) dX0_hear_12 (fun H locs hP hD hS => ?_)
  have hP : va_P D vwCl [(r0, .inr (0, [.ref r1, .ref r2, .ref r3, .ref r4, .ref r5, .ref r6, .ref r7, .ref r8, .int ig, .int (nI n), .int ip, .int ir])), (r1, .inl (K 0, 16, .inl fr)), (r2, .inl (K 0, 16, .inl (va_cpy fr fw (0 : Int32).toNatClampNeg (0 : Int32).toNatClampNeg (16 : Int32).toNatClampNeg)))] H := hP
  have hD : va_D A [(r0, .inr (0, [.ref r1, .ref r2, .ref r3, .ref r4, .ref r5, .ref r6, .ref r7, .ref r8, .int ig, .int (nI n), .int ip, .int ir])), (r1, .inl (K 0, 16, .inl fr)), (r2, .inl (K 0, 16, .inl (va_cpy fr fw (0 : Int32).toNatClampNeg (0 : Int32).toNatClampNeg (16 : Int32).toNatClampNeg)))] := hD
  have hP : va_P D vwCl [(r0, .inr (0, [.ref r1, .ref r2, .ref r3, .ref r4, .ref r5, .ref r6, .ref r7, .ref r8, .int ig, .int (nI n), .int ip, .int ir])), (r1, .inl (K 0, 16, .inl fr)), (r2, .inl (K 0, 16, .inl fr))] H := gP_ext hP 2 rfl (cpy_in 16 rfl)
  have hD : va_D A [(r0, .inr (0, [.ref r1, .ref r2, .ref r3, .ref r4, .ref r5, .ref r6, .ref r7, .ref r8, .int ig, .int (nI n), .int ip, .int ir])), (r1, .inl (K 0, 16, .inl fr)), (r2, .inl (K 0, 16, .inl fr))] := gD_ext hD 2 rfl
  refine lv_iload_n hx hb dX0_hear_15 rfl (lv_at hl 2 rfl) ?_
  refine lv_istore_n (lv' := [(3, .int (nI pl)), (0, .ref r0), (1, .int b), (2, .int (nI pl))]) hx hb dX0_hear_16 rfl hl (by decide) rfl (fun ls hl => ?_)
  refine lv_aload_n hx hb dX0_hear_17 rfl (lv_at hl 1 rfl) ?_
  refine va_get (D := D) (ci := 0) (v := .int (nI n)) (C := RX0) (T := TX0) (N := 12) hx hb hts hi0 hown hK hP 0 rfl rfl 9 (by decide) (hts (.fieldLink RX0 43 "PairedChannels$Reading" "places" "I") (List.mem_of_getElem? (i := 7) (by decide +kernel))) (fun _ h9 => h9) rfl dX0_hear_18 ?_
  refine lv_iconst (v := 2) hx hb dX0_hear_21 (by decide) ?_
  refine lv_idiv hx hb dX0_hear_22 (by decide) ?_
  refine lv_eqi (nI (n / 2)) (pk_div (a := n) (d := 2) (by omega) (by omega) (by omega)) ?_
  refine lv_eqi (nI (2 ^ (lg n) / 2)) (by rw [← lg_pow hn.n1]) ?_
  refine lv_istore (lv' := [(4, .int (nI (2 ^ (lg n) / 2))), (3, .int (nI pl)), (0, .ref r0), (1, .int b), (2, .int (nI pl))]) hx hb dX0_hear_23 hl (by decide) rfl (fun ls hl => ?_)
  refine g_loopD (st := []) (N := (lg n)) (fun k H locs ls => ∃ rs : Nat, ∃ rww : Nat → Int32, (k ≤ 4 ∧ rs < 2 ^ k ∧ rs ≤ pl ∧ hearF b pl k rs rww = hea n fr pl b) ∧ va_P D vwCl [(r0, .inr (0, [.ref r1, .ref r2, .ref r3, .ref r4, .ref r5, .ref r6, .ref r7, .ref r8, .int ig, .int (nI n), .int ip, .int ir])), (r1, .inl (K 0, 16, .inl fr)), (r2, .inl (K 0, 16, .inl rww))] H ∧ va_D A [(r0, .inr (0, [.ref r1, .ref r2, .ref r3, .ref r4, .ref r5, .ref r6, .ref r7, .ref r8, .int ig, .int (nI n), .int ip, .int ir])), (r1, .inl (K 0, 16, .inl fr)), (r2, .inl (K 0, 16, .inl rww))] ∧ va_S A s.heap H locs ∧ lv_has ls 6 [(4, .int (nI (2 ^ k / 2))), (3, .int (nI rs)), (0, .ref r0), (1, .int b), (2, .int (nI pl))])  ?_ ?_ ?_
  · intro H locs ls hI
    obtain ⟨rs, rww, ⟨hk4, hrs, hrp, hz⟩, hP, hD, hS, hl⟩ := hI
    refine lv_iload hx hb dX0_hear_25 (lv_at hl 0 rfl) ?_
    refine lv_if_le (tgt := 86) hx hb dX0_hear_27 (by decide) (fun c0 => ?_) (fun c0 => ?_)
    · skip
      have c0 : 2 ^ 0 / 2 ≤ 0 := (nI_leI (a := 2 ^ 0 / 2) (b := 0) (by omega) (by omega)).mp c0
      refine lv_aload_n hx hb dX0_hear_86 rfl (lv_at hl 2 rfl) ?_
      refine va_get (D := D) (ci := 0) (v := .ref r2) (C := RX0) (T := TX0) (N := 12) hx hb hts hi0 hown hK hP 0 rfl rfl 1 (by decide) (hts (.fieldLink RX0 15 "PairedChannels$Reading" "row" "[I") (List.mem_of_getElem? (i := 2) (by decide +kernel))) (fun _ h9 => h9) rfl dX0_hear_87 ?_
      refine lv_iconst (v := 0) hx hb dX0_hear_90 (by decide) ?_
      refine wa_iald hx hb hK hP 2 0 rfl rfl (0) rfl (by omega) (by decide) dX0_hear_91 ?_
      exact gW_iret (v := rww 0) rww hx hb hr hlk (rfl) hK hP hD hS (hz) dX0_hear_92
    · skip
      have c0 : ¬ 2 ^ 0 / 2 ≤ 0 := fun h9 => c0 ((nI_leI (a := 2 ^ 0 / 2) (b := 0) (by omega) (by omega)).mpr h9)
      exact absurd c0 (by decide)
  · intro k ih1 H locs ls hI
    obtain ⟨rs, rww, ⟨hk4, hrs, hrp, hz⟩, hP, hD, hS, hl⟩ := hI
    have hpw := pw_le hk4
    have hph := pw_half k
    have hps := pw_s k
    have hpk := pw_le (k := k) (by omega)
    refine lv_iload hx hb dX0_hear_25 (lv_at hl 0 rfl) ?_
    refine lv_if_le (tgt := 86) hx hb dX0_hear_27 (by decide) (fun c0 => ?_) (fun c0 => ?_)
    · skip
      have c0 : 2 ^ (k + 1) / 2 ≤ 0 := (nI_leI (a := 2 ^ (k + 1) / 2) (b := 0) (by omega) (by omega)).mp c0
      omega
    · skip
      have c0 : ¬ 2 ^ (k + 1) / 2 ≤ 0 := fun h9 => c0 ((nI_leI (a := 2 ^ (k + 1) / 2) (b := 0) (by omega) (by omega)).mpr h9)
      have e9 : (nI (2 ^ (k + 1) / 2)) = (nI (2 ^ k)) := by rw [hph]
      rw [e9] at hl
      refine lv_iload_n hx hb dX0_hear_30 rfl (lv_at hl 1 rfl) ?_
      refine lv_iload hx hb dX0_hear_31 (lv_at hl 0 rfl) ?_
      refine lv_icmp_ge (tgt := 45) hx hb dX0_hear_33 (by decide) (fun c4 => ?_) (fun c4 => ?_)
      · skip
        have c4 : 2 ^ k ≤ rs := (nI_leI (a := 2 ^ k) (b := rs) (by omega) (by omega)).mp c4
        refine lv_iload_n hx hb dX0_hear_45 rfl (lv_at hl 3 rfl) ?_
        refine lv_iload_n hx hb dX0_hear_46 rfl (lv_at hl 4 rfl) ?_
        refine lv_iload_n hx hb dX0_hear_47 rfl (lv_at hl 1 rfl) ?_
        refine lv_isub hx hb dX0_hear_48 ?_
        refine lv_eqi (nI (pl - rs)) (pk_sub hrp) ?_
        refine lv_ishr hx hb dX0_hear_49 ?_
        refine lv_iconst (v := 1) hx hb dX0_hear_50 (by decide) ?_
        refine lv_iload hx hb dX0_hear_51 (lv_at hl 0 rfl) ?_
        refine lv_ishl hx hb dX0_hear_53 ?_
        refine lv_iconst (v := 1) hx hb dX0_hear_54 (by decide) ?_
        refine lv_isub hx hb dX0_hear_55 ?_
        refine lv_iand hx hb dX0_hear_56 ?_
        refine lv_istore (lv' := [(5, .int ((b >>> ((nI (pl - rs)) &&& 31)) &&& ((1 <<< ((nI (2 ^ k)) &&& 31)) - 1))), (4, .int (nI (2 ^ k))), (3, .int (nI rs)), (0, .ref r0), (1, .int b), (2, .int (nI pl))]) hx hb dX0_hear_57 hl (by decide) rfl (fun ls hl => ?_)
        refine lv_aload_n hx hb dX0_hear_59 rfl (lv_at hl 3 rfl) ?_
        refine lv_iload hx hb dX0_hear_60 (lv_at hl 1 rfl) ?_
        refine lv_iload hx hb dX0_hear_62 (lv_at hl 0 rfl) ?_
        refine lv_iload hx hb dX0_hear_64 (lv_at hl 1 rfl) ?_
        refine gR_i (va_runSN (host := RX3) (As := [.int ((b >>> ((nI (pl - rs)) &&& 31)) &&& ((1 <<< ((nI (2 ^ k)) &&& 31)) - 1)), .int (nI (2 ^ k))]) (rest := [.int (nI (2 ^ k)), .ref r0]) ⟨hx, hb, hml, hown, hts⟩ (c_X3_coded l D K ((b >>> ((nI (pl - rs)) &&& 31)) &&& ((1 <<< ((nI (2 ^ k)) &&& 31)) - 1)) (2 ^ k) (okN1_pow (by omega))) ⟨va_cnB 2 hts gX0_hear_X3_coded_n110 rfl rfl rfl (hE.1 _ (by decide +kernel)) (hts (.initialized RX3) (List.mem_of_getElem? (i := 14) (by decide +kernel))) (by decide +kernel) ⟨Nat.le_of_ble_eq_true rfl, Nat.le_of_ble_eq_true rfl⟩, (hts (.static yX3_coded) (List.mem_of_getElem? (i := 13) (by decide +kernel))), trivial⟩ (gR_pre hE hS hK hP [] rfl) rfl rfl hl.1 rfl (lv_room (Nat.le_of_ble_eq_true rfl)) dX0_hear_66 ⟨Nat.le_of_ble_eq_true rfl, Nat.le_of_ble_eq_true rfl⟩) hS hP (fun rv6 H locs h5 hP hS => ?_)
        have h5 : rv6 = cod ((b >>> ((nI (pl - rs)) &&& 31)) &&& ((1 <<< ((nI (2 ^ k)) &&& 31)) - 1)) (2 ^ k) := h5
        subst h5
        refine lv_eqi (cod (b >>> (nI (pl - rs) &&& 31)) (2 ^ k)) (cod_mask _ _) ?_
        refine gW_v (wr := [(r1, .inl (K 0, 16, .inl fr))]) (W2 := (fun (u : Unit) => [(r0, .inr (0, [.ref r1, .ref r2, .ref r3, .ref r4, .ref r5, .ref r6, .ref r7, .ref r8, .int ig, .int (nI n), .int ip, .int ir])), (r1, .inl (K 0, 16, .inl fr)), (r2, .inl (K 0, 16, .inl (prR (2 ^ k) (cod (b >>> (nI (pl - rs) &&& 31)) (2 ^ k)) rww (2 ^ k))))])) (va_runV (As := [.int (nI (2 ^ k)), .int (cod (b >>> (nI (pl - rs) &&& 31)) (2 ^ k))]) (rest := []) ⟨hx, hb, hml, hown, hts⟩ ((c_X0_pairRead l D K r0 r1 r2 r3 r4 r5 r6 r7 r8 n ig ip ir (2 ^ k) (cod (b >>> (nI (pl - rs) &&& 31)) (2 ^ k)) rww (by omega)) H.size) (cwV 2 hts gX0_hear_X0_pairRead rfl rfl rfl (by decide +kernel) ⟨Nat.le_of_ble_eq_true rfl, Nat.le_of_ble_eq_true rfl⟩) (gW_preV hE hS hK hP hD hA [0, 2] rfl (by decide) 0 rfl rfl rfl) rfl rfl hl.1 rfl (lv_room (Nat.le_of_ble_eq_true rfl)) dX0_hear_69 ⟨Nat.le_of_ble_eq_true rfl, Nat.le_of_ble_eq_true rfl⟩) hS hP hD hA [0, 2] [1] [1, 0, 2] rfl rfl (by decide) (by decide) (by decide) (fun _ => rfl) (fun u7 H locs h8 hP hD hS => ?_)
        have hP : va_P D vwCl [(r0, .inr (0, [.ref r1, .ref r2, .ref r3, .ref r4, .ref r5, .ref r6, .ref r7, .ref r8, .int ig, .int (nI n), .int ip, .int ir])), (r1, .inl (K 0, 16, .inl fr)), (r2, .inl (K 0, 16, .inl (prR (2 ^ k) (cod (b >>> (nI (pl - rs) &&& 31)) (2 ^ k)) rww (2 ^ k))))] H := hP
        have hD : va_D A [(r0, .inr (0, [.ref r1, .ref r2, .ref r3, .ref r4, .ref r5, .ref r6, .ref r7, .ref r8, .int ig, .int (nI n), .int ip, .int ir])), (r1, .inl (K 0, 16, .inl fr)), (r2, .inl (K 0, 16, .inl (prR (2 ^ k) (cod (b >>> (nI (pl - rs) &&& 31)) (2 ^ k)) rww (2 ^ k))))] := hD
        refine lv_iload_n hx hb dX0_hear_72 rfl (lv_at hl 2 rfl) ?_
        refine lv_iload hx hb dX0_hear_73 (lv_at hl 1 rfl) ?_
        refine lv_isub hx hb dX0_hear_75 ?_
        refine lv_eqi (nI (rs - 2 ^ k)) (pk_sub (by omega)) ?_
        refine lv_istore_n (lv' := [(3, .int (nI (rs - 2 ^ k))), (5, .int ((b >>> ((nI (pl - rs)) &&& 31)) &&& ((1 <<< ((nI (2 ^ k)) &&& 31)) - 1))), (4, .int (nI (2 ^ k))), (0, .ref r0), (1, .int b), (2, .int (nI pl))]) hx hb dX0_hear_76 rfl hl (by decide) rfl (fun ls hl => ?_)
        refine lv_iload hx hb dX0_hear_77 (lv_at hl 2 rfl) ?_
        refine lv_iconst (v := 2) hx hb dX0_hear_79 (by decide) ?_
        refine lv_idiv hx hb dX0_hear_80 (by decide) ?_
        refine lv_eqi (nI ((2 ^ k) / 2)) (pk_div (a := 2 ^ k) (d := 2) (by omega) (by omega) (by omega)) ?_
        refine lv_istore (lv' := [(4, .int (nI ((2 ^ k) / 2))), (3, .int (nI (rs - 2 ^ k))), (5, .int ((b >>> ((nI (pl - rs)) &&& 31)) &&& ((1 <<< ((nI (2 ^ k)) &&& 31)) - 1))), (0, .ref r0), (1, .int b), (2, .int (nI pl))]) hx hb dX0_hear_81 hl (by decide) rfl (fun ls hl => ?_)
        refine lv_goto (tgt := 25) hx hb dX0_hear_83 (by decide) ?_
        exact ih1 H locs ls ⟨rs - 2 ^ k, prR (2 ^ k) (cod (b >>> (nI (pl - rs) &&& 31)) (2 ^ k)) rww (2 ^ k), (⟨by omega, by omega, by omega, by rw [← hz]; show _ = (if rs < 2 ^ k then hearF b pl k rs (puR (2 ^ k) rww (2 ^ k)) else hearF b pl k (rs - 2 ^ k) (prR (2 ^ k) (cod (b >>> (nI (pl - rs) &&& 31)) (2 ^ k)) rw (2 ^ k))); first | rw [if_pos (by omega)] | rw [if_neg (by omega)]⟩), hP, hD, hS, lv_sub hl [0, 1, 3, 4, 5] rfl⟩
      · skip
        have c4 : ¬ 2 ^ k ≤ rs := fun h9 => c4 ((nI_leI (a := 2 ^ k) (b := rs) (by omega) (by omega)).mpr h9)
        refine lv_aload_n hx hb dX0_hear_36 rfl (lv_at hl 2 rfl) ?_
        refine lv_iload hx hb dX0_hear_37 (lv_at hl 0 rfl) ?_
        refine gW_v (wr := [(r1, .inl (K 0, 16, .inl fr))]) (W2 := (fun (u : Unit) => [(r0, .inr (0, [.ref r1, .ref r2, .ref r3, .ref r4, .ref r5, .ref r6, .ref r7, .ref r8, .int ig, .int (nI n), .int ip, .int ir])), (r1, .inl (K 0, 16, .inl fr)), (r2, .inl (K 0, 16, .inl (puR (2 ^ k) rww (2 ^ k))))])) (va_runV (As := [.int (nI (2 ^ k))]) (rest := []) ⟨hx, hb, hml, hown, hts⟩ ((c_X0_pairUnread l D K r0 r1 r2 r3 r4 r5 r6 r7 r8 n ig ip ir (2 ^ k) rww (by omega)) H.size) (cwV 1 hts gX0_hear_X0_pairUnread rfl rfl rfl (by decide +kernel) ⟨Nat.le_of_ble_eq_true rfl, Nat.le_of_ble_eq_true rfl⟩) (gW_preV hE hS hK hP hD hA [0, 2] rfl (by decide) 0 rfl rfl rfl) rfl rfl hl.1 rfl (lv_room (Nat.le_of_ble_eq_true rfl)) dX0_hear_39 ⟨Nat.le_of_ble_eq_true rfl, Nat.le_of_ble_eq_true rfl⟩) hS hP hD hA [0, 2] [1] [1, 0, 2] rfl rfl (by decide) (by decide) (by decide) (fun _ => rfl) (fun u10 H locs h11 hP hD hS => ?_)
        have hP : va_P D vwCl [(r0, .inr (0, [.ref r1, .ref r2, .ref r3, .ref r4, .ref r5, .ref r6, .ref r7, .ref r8, .int ig, .int (nI n), .int ip, .int ir])), (r1, .inl (K 0, 16, .inl fr)), (r2, .inl (K 0, 16, .inl (puR (2 ^ k) rww (2 ^ k))))] H := hP
        have hD : va_D A [(r0, .inr (0, [.ref r1, .ref r2, .ref r3, .ref r4, .ref r5, .ref r6, .ref r7, .ref r8, .int ig, .int (nI n), .int ip, .int ir])), (r1, .inl (K 0, 16, .inl fr)), (r2, .inl (K 0, 16, .inl (puR (2 ^ k) rww (2 ^ k))))] := hD
        refine lv_goto (tgt := 77) hx hb dX0_hear_42 (by decide) ?_
        refine lv_iload hx hb dX0_hear_77 (lv_at hl 0 rfl) ?_
        refine lv_iconst (v := 2) hx hb dX0_hear_79 (by decide) ?_
        refine lv_idiv hx hb dX0_hear_80 (by decide) ?_
        refine lv_eqi (nI ((2 ^ k) / 2)) (pk_div (a := 2 ^ k) (d := 2) (by omega) (by omega) (by omega)) ?_
        refine lv_istore (lv' := [(4, .int (nI ((2 ^ k) / 2))), (3, .int (nI rs)), (0, .ref r0), (1, .int b), (2, .int (nI pl))]) hx hb dX0_hear_81 hl (by decide) rfl (fun ls hl => ?_)
        refine lv_goto (tgt := 25) hx hb dX0_hear_83 (by decide) ?_
        exact ih1 H locs ls ⟨rs, puR (2 ^ k) rww (2 ^ k), (⟨by omega, by omega, by omega, by rw [← hz]; show _ = (if rs < 2 ^ k then hearF b pl k rs (puR (2 ^ k) rww (2 ^ k)) else hearF b pl k (rs - 2 ^ k) (prR (2 ^ k) (cod (b >>> (nI (pl - rs) &&& 31)) (2 ^ k)) rw (2 ^ k))); first | rw [if_pos (by omega)] | rw [if_neg (by omega)]⟩), hP, hD, hS, lv_sub hl [0, 1, 2, 3, 4] rfl⟩
  · exact ⟨pl, fr, (⟨lg_le hn.n1, by rw [← lg_pow hn.n1]; exact hp, Nat.le_refl _, rfl⟩), hP, hD, hS, lv_sub hl [0, 1, 2, 3, 4] rfl⟩

set_option maxHeartbeats 4000000 in
set_option maxRecDepth 100000 in
theorem c_X0_addGrown (l : Launch) (D : va_G) (K : Nat → ClassId) (r0 : Nat) (r1 : Nat) (r2 : Nat) (r3 : Nat) (r4 : Nat) (r5 : Nat) (r6 : Nat) (r7 : Nat) (r8 : Nat) (n : Nat) (ip : Int32) (ir : Int32) (gn : Nat) (gb : Nat → Int32) (gp : Nat → Int32) (b : Int32) (q : Int32) (hg : gn < 8) : MWv l yX0_addGrown wsX0_addGrown ({ frames := 0, cells := 0, slots := 0, locals := 0 } : Room) D (gTy K) [.ref r0, .int b, .int q] [(r0, .inr (0, [.ref r1, .ref r2, .ref r3, .ref r4, .ref r5, .ref r6, .ref r7, .ref r8, .int (nI gn), .int (nI n), .int ip, .int ir])), (r7, .inl (K 0, 8, .inl gb)), (r8, .inl (K 0, 8, .inl gp))] (fun (u : Unit) => [(r0, .inr (0, [.ref r1, .ref r2, .ref r3, .ref r4, .ref r5, .ref r6, .ref r7, .ref r8, .int (nI (gn + 1)), .int (nI n), .int ip, .int ir])), (r7, .inl (K 0, 8, .inl (upd gb gn b))), (r8, .inl (K 0, 8, .inl (upd gp gn q)))]) (fun (u : Unit) => True) 0 0 := by
  refine g_ofW (Qc := fun A => va_Qv _ (gB D (gTy K) A _) A) (cc := cX0_addGrown) (maxL := 3) (ret := none) (own := RX0) (by decide) rfl rfl (Nat.le_of_ble_eq_true rfl) ?_
  intro pp ee s mm below meth cc A hfx hnm hK hP hD hE hS hA ls hl
  obtain ⟨hx, hb, hr, hml, hown, hts, hlk⟩ := hfx
  have hl : lv_has ls 3 [(0, .ref r0), (1, .int b), (2, .int q)] := hl
  have hi0 : ∀ w ∈ u_ws RX0 TX0 12, w ∈ wsX0_addGrown := fun w h => List.mem_cons_of_mem _ (List.mem_append_right _ (h))
  refine lv_aload_n hx hb dX0_addGrown_0 rfl (lv_at hl 0 rfl) ?_
  refine va_get (D := D) (ci := 0) (v := .int (nI gn)) (C := RX0) (T := TX0) (N := 12) hx hb hts hi0 hown hK hP 0 rfl rfl 8 (by decide) (hts (.fieldLink RX0 87 "PairedChannels$Reading" "grown" "I") (List.mem_of_getElem? (i := 1) (by decide +kernel))) (fun _ h9 => h9) rfl dX0_addGrown_1 ?_
  refine lv_aload_n hx hb dX0_addGrown_4 rfl (lv_at hl 0 rfl) ?_
  refine va_get (D := D) (ci := 0) (v := .ref r7) (C := RX0) (T := TX0) (N := 12) hx hb hts hi0 hown hK hP 0 rfl rfl 6 (by decide) (hts (.fieldLink RX0 31 "PairedChannels$Reading" "grownBits" "[I") (List.mem_of_getElem? (i := 2) (by decide +kernel))) (fun _ h9 => h9) rfl dX0_addGrown_5 ?_
  refine va_alen (v := 8) hx hb hK hP 1 0 rfl rfl (by decide) dX0_addGrown_8 ?_
  refine lv_icmp_ge (tgt := 42) hx hb dX0_addGrown_9 (by decide) (fun c1 => ?_) (fun c1 => ?_)
  · skip
    have c1 : 8 ≤ gn := (nI_leI (a := 8) (b := gn) (by omega) (by omega)).mp c1
    omega
  · skip
    have c1 : ¬ 8 ≤ gn := fun h9 => c1 ((nI_leI (a := 8) (b := gn) (by omega) (by omega)).mpr h9)
    refine lv_aload_n hx hb dX0_addGrown_12 rfl (lv_at hl 0 rfl) ?_
    refine va_get (D := D) (ci := 0) (v := .ref r7) (C := RX0) (T := TX0) (N := 12) hx hb hts hi0 hown hK hP 0 rfl rfl 6 (by decide) (hts (.fieldLink RX0 31 "PairedChannels$Reading" "grownBits" "[I") (List.mem_of_getElem? (i := 2) (by decide +kernel))) (fun _ h9 => h9) rfl dX0_addGrown_13 ?_
    refine lv_aload_n hx hb dX0_addGrown_16 rfl (lv_at hl 0 rfl) ?_
    refine va_get (D := D) (ci := 0) (v := .int (nI gn)) (C := RX0) (T := TX0) (N := 12) hx hb hts hi0 hown hK hP 0 rfl rfl 8 (by decide) (hts (.fieldLink RX0 87 "PairedChannels$Reading" "grown" "I") (List.mem_of_getElem? (i := 1) (by decide +kernel))) (fun _ h9 => h9) rfl dX0_addGrown_17 ?_
    refine lv_iload_n hx hb dX0_addGrown_20 rfl (lv_at hl 1 rfl) ?_
    refine wa_iast (x := b) hx hb hK hP hD hS 1 0 rfl rfl (gn) rfl (by omega) (by decide) dX0_addGrown_21 (fun H locs hP hD hS => ?_)
    have hP : va_P D vwCl [(r0, .inr (0, [.ref r1, .ref r2, .ref r3, .ref r4, .ref r5, .ref r6, .ref r7, .ref r8, .int (nI gn), .int (nI n), .int ip, .int ir])), (r7, .inl (K 0, 8, .inl (upd gb gn b))), (r8, .inl (K 0, 8, .inl gp))] H := hP
    have hD : va_D A [(r0, .inr (0, [.ref r1, .ref r2, .ref r3, .ref r4, .ref r5, .ref r6, .ref r7, .ref r8, .int (nI gn), .int (nI n), .int ip, .int ir])), (r7, .inl (K 0, 8, .inl (upd gb gn b))), (r8, .inl (K 0, 8, .inl gp))] := hD
    refine lv_aload_n hx hb dX0_addGrown_22 rfl (lv_at hl 0 rfl) ?_
    refine va_get (D := D) (ci := 0) (v := .ref r8) (C := RX0) (T := TX0) (N := 12) hx hb hts hi0 hown hK hP 0 rfl rfl 7 (by decide) (hts (.fieldLink RX0 34 "PairedChannels$Reading" "grownPenalties" "[I") (List.mem_of_getElem? (i := 3) (by decide +kernel))) (fun _ h9 => h9) rfl dX0_addGrown_23 ?_
    refine lv_aload_n hx hb dX0_addGrown_26 rfl (lv_at hl 0 rfl) ?_
    refine va_get (D := D) (ci := 0) (v := .int (nI gn)) (C := RX0) (T := TX0) (N := 12) hx hb hts hi0 hown hK hP 0 rfl rfl 8 (by decide) (hts (.fieldLink RX0 87 "PairedChannels$Reading" "grown" "I") (List.mem_of_getElem? (i := 1) (by decide +kernel))) (fun _ h9 => h9) rfl dX0_addGrown_27 ?_
    refine lv_iload_n hx hb dX0_addGrown_30 rfl (lv_at hl 2 rfl) ?_
    refine wa_iast (x := q) hx hb hK hP hD hS 2 0 rfl rfl (gn) rfl (by omega) (by decide) dX0_addGrown_31 (fun H locs hP hD hS => ?_)
    have hP : va_P D vwCl [(r0, .inr (0, [.ref r1, .ref r2, .ref r3, .ref r4, .ref r5, .ref r6, .ref r7, .ref r8, .int (nI gn), .int (nI n), .int ip, .int ir])), (r7, .inl (K 0, 8, .inl (upd gb gn b))), (r8, .inl (K 0, 8, .inl (upd gp gn q)))] H := hP
    have hD : va_D A [(r0, .inr (0, [.ref r1, .ref r2, .ref r3, .ref r4, .ref r5, .ref r6, .ref r7, .ref r8, .int (nI gn), .int (nI n), .int ip, .int ir])), (r7, .inl (K 0, 8, .inl (upd gb gn b))), (r8, .inl (K 0, 8, .inl (upd gp gn q)))] := hD
    refine lv_aload_n hx hb dX0_addGrown_32 rfl (lv_at hl 0 rfl) ?_
    refine lv_dup hx hb dX0_addGrown_33 rfl ?_
    refine va_get (D := D) (ci := 0) (v := .int (nI gn)) (C := RX0) (T := TX0) (N := 12) hx hb hts hi0 hown hK hP 0 rfl rfl 8 (by decide) (hts (.fieldLink RX0 87 "PairedChannels$Reading" "grown" "I") (List.mem_of_getElem? (i := 1) (by decide +kernel))) (fun _ h9 => h9) rfl dX0_addGrown_34 ?_
    refine lv_iconst (v := 1) hx hb dX0_addGrown_37 (by decide) ?_
    refine lv_iadd hx hb dX0_addGrown_38 ?_
    refine lv_eqi (nI (gn + 1)) (nI_add gn 1) ?_
    refine va_put (D := D) (ci := 0) (v := .int (nI (gn + 1))) (ty := .int) (C := RX0) (T := TX0) (N := 12) hx hb hts hi0 tyX0 tyX0_ok nmX0 hown hK hP hD hS 0 rfl rfl 8 (by decide) (hts (.fieldLink RX0 87 "PairedChannels$Reading" "grown" "I") (List.mem_of_getElem? (i := 1) (by decide +kernel))) (fun _ h9 => h9) rfl (by decide +kernel) (rfl) (rfl) (Nat.le_of_ble_eq_true rfl) dX0_addGrown_39 (fun H locs hP hD hS => ?_)
    have hP : va_P D vwCl [(r0, .inr (0, [.ref r1, .ref r2, .ref r3, .ref r4, .ref r5, .ref r6, .ref r7, .ref r8, .int (nI (gn + 1)), .int (nI n), .int ip, .int ir])), (r7, .inl (K 0, 8, .inl (upd gb gn b))), (r8, .inl (K 0, 8, .inl (upd gp gn q)))] H := hP
    have hD : va_D A [(r0, .inr (0, [.ref r1, .ref r2, .ref r3, .ref r4, .ref r5, .ref r6, .ref r7, .ref r8, .int (nI (gn + 1)), .int (nI n), .int ip, .int ir])), (r7, .inl (K 0, 8, .inl (upd gb gn b))), (r8, .inl (K 0, 8, .inl (upd gp gn q)))] := hD
    exact gW_vret () hx hb hr hlk hK hP hD hS (trivial) dX0_addGrown_42

set_option maxHeartbeats 4000000 in
set_option maxRecDepth 100000 in
theorem c_X0_rankOfGrown (l : Launch) (D : va_G) (K : Nat → ClassId) (r0 : Nat) (r1 : Nat) (r2 : Nat) (r3 : Nat) (r4 : Nat) (r5 : Nat) (r6 : Nat) (r7 : Nat) (r8 : Nat) (n : Nat) (ip : Int32) (ir : Int32) (gn : Nat) (gp : Nat → Int32) (i : Nat) (hg : gn ≤ 8) (hi : i < gn) (hbp : ∀ t, t < gn → 0 ≤ (gp t).toInt ∧ (gp t).toInt ≤ 100000) : MRi l yX0_rankOfGrown wsX0_rankOfGrown ({ frames := 0, cells := 0, slots := 0, locals := 0 } : Room) D (gTy K) [.ref r0, .int (nI i)] [(r0, .inr (0, [.ref r1, .ref r2, .ref r3, .ref r4, .ref r5, .ref r6, .ref r7, .ref r8, .int (nI gn), .int (nI n), .int ip, .int ir])), (r8, .inl (K 0, 8, .inl gp))] (fun r => r = nI (rkF gp i gn)) := by
  refine g_ofR (cc := cX0_rankOfGrown) (maxL := 5) (ret := (some .int)) (own := RX0) (by decide) rfl rfl (Nat.le_of_ble_eq_true rfl) ?_
  intro pp ee s mm below meth cc hfx hK hP hE hS ls hl
  obtain ⟨hx, hb, hr, hml, hown, hts, hlk⟩ := hfx
  have hl : lv_has ls 5 [(3, .int 0), (2, .int 0), (0, .ref r0), (1, .int (nI i))] := hl
  have hi0 : ∀ w ∈ u_ws RX0 TX0 12, w ∈ wsX0_rankOfGrown := fun w h => List.mem_cons_of_mem _ (List.mem_append_right _ (h))
  refine lv_iconst (v := 0) hx hb dX0_rankOfGrown_0 (by decide) ?_
  refine lv_istore_n (lv' := [(2, .int 0), (0, .ref r0), (1, .int (nI i))]) hx hb dX0_rankOfGrown_1 rfl hl (by decide) rfl (fun ls hl => ?_)
  refine lv_iconst (v := 0) hx hb dX0_rankOfGrown_2 (by decide) ?_
  refine lv_istore_n (lv' := [(3, .int 0), (2, .int 0), (0, .ref r0), (1, .int (nI i))]) hx hb dX0_rankOfGrown_3 rfl hl (by decide) rfl (fun ls hl => ?_)
  refine g_loopW (st := []) (N := gn) (fun t H locs ls => va_P D vwCl [(r0, .inr (0, [.ref r1, .ref r2, .ref r3, .ref r4, .ref r5, .ref r6, .ref r7, .ref r8, .int (nI gn), .int (nI n), .int ip, .int ir])), (r8, .inl (K 0, 8, .inl gp))] H ∧ va_S gNo s.heap H locs ∧ lv_has ls 5 [(3, .int (nI t)), (2, .int (nI (rkF gp i t))), (0, .ref r0), (1, .int (nI i))]) 0 (Nat.zero_le _) ?_ ?_ ?_
  · intro H locs ls hI
    obtain ⟨hP, hS, hl⟩ := hI
    refine lv_iload_n hx hb dX0_rankOfGrown_4 rfl (lv_at hl 0 rfl) ?_
    refine lv_aload_n hx hb dX0_rankOfGrown_5 rfl (lv_at hl 2 rfl) ?_
    refine va_get (D := D) (ci := 0) (v := .int (nI gn)) (C := RX0) (T := TX0) (N := 12) hx hb hts hi0 hown hK hP 0 rfl rfl 8 (by decide) (hts (.fieldLink RX0 87 "PairedChannels$Reading" "grown" "I") (List.mem_of_getElem? (i := 1) (by decide +kernel))) (fun _ h9 => h9) rfl dX0_rankOfGrown_6 ?_
    refine lv_icmp_ge (tgt := 51) hx hb dX0_rankOfGrown_9 (by decide) (fun c2 => ?_) (fun c2 => ?_)
    · skip
      have c2 : gn ≤ gn := (nI_leI (a := gn) (b := gn) (by omega) (by omega)).mp c2
      refine lv_iload_n hx hb dX0_rankOfGrown_51 rfl (lv_at hl 1 rfl) ?_
      exact gR_iret (v := nI (rkF gp i gn)) hx hb hr hlk (rfl) hS (rfl) dX0_rankOfGrown_52
    · skip
      have c2 : ¬ gn ≤ gn := fun h9 => c2 ((nI_leI (a := gn) (b := gn) (by omega) (by omega)).mpr h9)
      omega
  · intro t ht ih1 H locs ls hI
    obtain ⟨hP, hS, hl⟩ := hI
    have hmg := mo_gt (Int.le_refl 100000) (hbp i hi) (hbp t ht)
    have hme := mo_eq (x := gp i) (y := gp t)
    have hrl := rkF_le gp i t
    refine lv_iload_n hx hb dX0_rankOfGrown_4 rfl (lv_at hl 0 rfl) ?_
    refine lv_aload_n hx hb dX0_rankOfGrown_5 rfl (lv_at hl 2 rfl) ?_
    refine va_get (D := D) (ci := 0) (v := .int (nI gn)) (C := RX0) (T := TX0) (N := 12) hx hb hts hi0 hown hK hP 0 rfl rfl 8 (by decide) (hts (.fieldLink RX0 87 "PairedChannels$Reading" "grown" "I") (List.mem_of_getElem? (i := 1) (by decide +kernel))) (fun _ h9 => h9) rfl dX0_rankOfGrown_6 ?_
    refine lv_icmp_ge (tgt := 51) hx hb dX0_rankOfGrown_9 (by decide) (fun c3 => ?_) (fun c3 => ?_)
    · skip
      have c3 : gn ≤ t := (nI_leI (a := gn) (b := t) (by omega) (by omega)).mp c3
      omega
    · skip
      have c3 : ¬ gn ≤ t := fun h9 => c3 ((nI_leI (a := gn) (b := t) (by omega) (by omega)).mpr h9)
      refine lv_aload_n hx hb dX0_rankOfGrown_12 rfl (lv_at hl 2 rfl) ?_
      refine va_get (D := D) (ci := 0) (v := .ref r8) (C := RX0) (T := TX0) (N := 12) hx hb hts hi0 hown hK hP 0 rfl rfl 7 (by decide) (hts (.fieldLink RX0 34 "PairedChannels$Reading" "grownPenalties" "[I") (List.mem_of_getElem? (i := 2) (by decide +kernel))) (fun _ h9 => h9) rfl dX0_rankOfGrown_13 ?_
      refine lv_iload_n hx hb dX0_rankOfGrown_16 rfl (lv_at hl 3 rfl) ?_
      refine wa_iald hx hb hK hP 1 0 rfl rfl (i) rfl (by omega) (by decide) dX0_rankOfGrown_17 ?_
      refine lv_aload_n hx hb dX0_rankOfGrown_18 rfl (lv_at hl 2 rfl) ?_
      refine va_get (D := D) (ci := 0) (v := .ref r8) (C := RX0) (T := TX0) (N := 12) hx hb hts hi0 hown hK hP 0 rfl rfl 7 (by decide) (hts (.fieldLink RX0 34 "PairedChannels$Reading" "grownPenalties" "[I") (List.mem_of_getElem? (i := 2) (by decide +kernel))) (fun _ h9 => h9) rfl dX0_rankOfGrown_19 ?_
      refine lv_iload_n hx hb dX0_rankOfGrown_22 rfl (lv_at hl 0 rfl) ?_
      refine wa_iald hx hb hK hP 1 0 rfl rfl (t) rfl (by omega) (by decide) dX0_rankOfGrown_23 ?_
      refine lv_isub hx hb dX0_rankOfGrown_24 ?_
      refine lv_istore (lv' := [(4, .int (gp i - gp t)), (3, .int (nI t)), (2, .int (nI (rkF gp i t))), (0, .ref r0), (1, .int (nI i))]) hx hb dX0_rankOfGrown_25 hl (by decide) rfl (fun ls hl => ?_)
      refine lv_iload hx hb dX0_rankOfGrown_27 (lv_at hl 0 rfl) ?_
      refine lv_if_gt (tgt := 42) hx hb dX0_rankOfGrown_29 (by decide) (fun c29 => ?_) (fun c29 => ?_)
      · skip
        refine lv_iinc (v := nI (rkF gp i t + 1)) (lv' := [(2, .int (nI (rkF gp i t + 1))), (4, .int (gp i - gp t)), (3, .int (nI t)), (0, .ref r0), (1, .int (nI i))]) hx hb dX0_rankOfGrown_42 hl (k := 2) rfl (nI_add (rkF gp i t) 1) (by decide) rfl (fun ls hl => ?_)
        refine lv_iinc (v := nI (t + 1)) (lv' := [(3, .int (nI (t + 1))), (2, .int (nI (rkF gp i t + 1))), (4, .int (gp i - gp t)), (0, .ref r0), (1, .int (nI i))]) hx hb dX0_rankOfGrown_45 hl (k := 2) rfl (nI_add t 1) (by decide) rfl (fun ls hl => ?_)
        refine lv_goto (tgt := 4) hx hb dX0_rankOfGrown_48 (by decide) ?_
        exact ih1 H locs ls ⟨hP, hS, lv_sub hl [0, 1, 3, 4] rfl⟩
      · skip
        refine lv_iload hx hb dX0_rankOfGrown_32 (lv_at hl 0 rfl) ?_
        refine lv_if_ne (tgt := 45) hx hb dX0_rankOfGrown_34 (by decide) (fun c34 => ?_) (fun c34 => ?_)
        · skip
          refine lv_iinc (v := nI (t + 1)) (lv' := [(3, .int (nI (t + 1))), (4, .int (gp i - gp t)), (2, .int (nI (rkF gp i t))), (0, .ref r0), (1, .int (nI i))]) hx hb dX0_rankOfGrown_45 hl (k := 1) rfl (nI_add t 1) (by decide) rfl (fun ls hl => ?_)
          refine lv_goto (tgt := 4) hx hb dX0_rankOfGrown_48 (by decide) ?_
          have e9 : (nI (rkF gp i t)) = (nI (rkF gp i t + 1)) := congrArg nI (by show _ = rkF gp i t + (if btr gp t i then 1 else 0); first | rw [if_pos (Or.inl (hmg.mp c29))] | (rw [if_neg (fun h => h.elim (fun h => c29 (hmg.mpr h)) (fun h => c34 (hme.mpr h.1.symm)))]; rfl) | rw [if_pos (Or.inr ⟨(hme.mp c34).symm, by omega⟩)] | (rw [if_neg (fun h => h.elim (fun h => c29 (hmg.mpr h)) (fun h => absurd h.2 (by omega)))]; rfl))
          rw [e9] at hl
          exact ih1 H locs ls ⟨hP, hS, lv_sub hl [0, 2, 3, 4] rfl⟩
        · skip
          refine lv_iload_n hx hb dX0_rankOfGrown_37 rfl (lv_at hl 1 rfl) ?_
          refine lv_iload_n hx hb dX0_rankOfGrown_38 rfl (lv_at hl 4 rfl) ?_
          refine lv_icmp_ge (tgt := 45) hx hb dX0_rankOfGrown_39 (by decide) (fun c39 => ?_) (fun c39 => ?_)
          · skip
            have c39 : i ≤ t := (nI_leI (a := i) (b := t) (by omega) (by omega)).mp c39
            refine lv_iinc (v := nI (t + 1)) (lv' := [(3, .int (nI (t + 1))), (4, .int (gp i - gp t)), (2, .int (nI (rkF gp i t))), (0, .ref r0), (1, .int (nI i))]) hx hb dX0_rankOfGrown_45 hl (k := 1) rfl (nI_add t 1) (by decide) rfl (fun ls hl => ?_)
            refine lv_goto (tgt := 4) hx hb dX0_rankOfGrown_48 (by decide) ?_
            have e9 : (nI (rkF gp i t)) = (nI (rkF gp i t + 1)) := congrArg nI (by show _ = rkF gp i t + (if btr gp t i then 1 else 0); first | rw [if_pos (Or.inl (hmg.mp c29))] | (rw [if_neg (fun h => h.elim (fun h => c29 (hmg.mpr h)) (fun h => c34 (hme.mpr h.1.symm)))]; rfl) | rw [if_pos (Or.inr ⟨(hme.mp c34).symm, by omega⟩)] | (rw [if_neg (fun h => h.elim (fun h => c29 (hmg.mpr h)) (fun h => absurd h.2 (by omega)))]; rfl))
            rw [e9] at hl
            exact ih1 H locs ls ⟨hP, hS, lv_sub hl [0, 2, 3, 4] rfl⟩
          · skip
            have c39 : ¬ i ≤ t := fun h9 => c39 ((nI_leI (a := i) (b := t) (by omega) (by omega)).mpr h9)
            refine lv_iinc (v := nI (rkF gp i t + 1)) (lv' := [(2, .int (nI (rkF gp i t + 1))), (4, .int (gp i - gp t)), (3, .int (nI t)), (0, .ref r0), (1, .int (nI i))]) hx hb dX0_rankOfGrown_42 hl (k := 2) rfl (nI_add (rkF gp i t) 1) (by decide) rfl (fun ls hl => ?_)
            refine lv_iinc (v := nI (t + 1)) (lv' := [(3, .int (nI (t + 1))), (2, .int (nI (rkF gp i t + 1))), (4, .int (gp i - gp t)), (0, .ref r0), (1, .int (nI i))]) hx hb dX0_rankOfGrown_45 hl (k := 2) rfl (nI_add t 1) (by decide) rfl (fun ls hl => ?_)
            refine lv_goto (tgt := 4) hx hb dX0_rankOfGrown_48 (by decide) ?_
            exact ih1 H locs ls ⟨hP, hS, lv_sub hl [0, 1, 3, 4] rfl⟩
  · exact ⟨hP, hS, lv_sub hl [0, 1, 2, 3] rfl⟩

set_option maxHeartbeats 4000000 in
set_option maxRecDepth 100000 in
theorem c_X0_keepLeast (l : Launch) (D : va_G) (K : Nat → ClassId) (r0 : Nat) (r1 : Nat) (r2 : Nat) (r3 : Nat) (r4 : Nat) (r5 : Nat) (r6 : Nat) (r7 : Nat) (r8 : Nat) (n : Nat) (ip : Int32) (ir : Int32) (L : PL) (lim : Nat) (fb : Nat → Int32) (fp : Nat → Int32) (gb : Nat → Int32) (gp : Nat → Int32) (hL : hol L gb gp) (hl8 : L.length ≤ 8) (hlim : lim ≤ 4) (hbp : okP 100000 L) : MWv l yX0_keepLeast wsX0_keepLeast ({ frames := 1, cells := 0, slots := 0, locals := 24 } : Room) D (gTy K) [.ref r0, .int (nI lim)] [(r0, .inr (0, [.ref r1, .ref r2, .ref r3, .ref r4, .ref r5, .ref r6, .ref r7, .ref r8, .int (nI L.length), .int (nI n), .int ip, .int ir])), (r3, .inl (K 0, 4, .inl fb)), (r4, .inl (K 0, 4, .inl fp)), (r7, .inl (K 0, 8, .inl gb)), (r8, .inl (K 0, 8, .inl gp))] (fun (u : (Nat → Int32) × (Nat → Int32)) => [(r0, .inr (0, [.ref r1, .ref r2, .ref r3, .ref r4, .ref r5, .ref r6, .ref r7, .ref r8, .int (nI L.length), .int (nI n), .int (nI ((keepL lim L).length)), .int ir])), (r3, .inl (K 0, 4, .inl u.1)), (r4, .inl (K 0, 4, .inl u.2)), (r7, .inl (K 0, 8, .inl gb)), (r8, .inl (K 0, 8, .inl gp))]) (fun (u : (Nat → Int32) × (Nat → Int32)) => hol (keepL lim L) u.1 u.2) 0 0 := by
  refine g_ofW (Qc := fun A => va_Qv _ (gB D (gTy K) A _) A) (cc := cX0_keepLeast) (maxL := 3) (ret := none) (own := RX0) (by decide) rfl rfl (Nat.le_of_ble_eq_true rfl) ?_
  intro pp ee s mm below meth cc A hfx hnm hK hP hD hE hS hA ls hl
  obtain ⟨hx, hb, hr, hml, hown, hts, hlk⟩ := hfx
  have hl : lv_has ls 3 [(2, .int 0), (0, .ref r0), (1, .int (nI lim))] := hl
  have hi0 : ∀ w ∈ u_ws RX0 TX0 12, w ∈ wsX0_keepLeast := fun w h => List.mem_cons_of_mem _ (List.mem_append_right _ (h))
  have hbq : ∀ t, t < L.length → 0 ≤ (gp t).toInt ∧ (gp t).toInt ≤ 100000 := fun t ht => by rw [(hL t ht).2]; exact hbp t ht
  refine lv_aload_n hx hb dX0_keepLeast_0 rfl (lv_at hl 0 rfl) ?_
  refine lv_iconst (v := 0) hx hb dX0_keepLeast_1 (by decide) ?_
  refine va_put (D := D) (ci := 0) (v := .int 0) (ty := .int) (C := RX0) (T := TX0) (N := 12) hx hb hts hi0 tyX0 tyX0_ok nmX0 hown hK hP hD hS 0 rfl rfl 10 (by decide) (hts (.fieldLink RX0 47 "PairedChannels$Reading" "paths" "I") (List.mem_of_getElem? (i := 1) (by decide +kernel))) (fun _ h9 => h9) rfl (by decide +kernel) (rfl) (rfl) (Nat.le_of_ble_eq_true rfl) dX0_keepLeast_2 (fun H locs hP hD hS => ?_)
  have hP : va_P D vwCl [(r0, .inr (0, [.ref r1, .ref r2, .ref r3, .ref r4, .ref r5, .ref r6, .ref r7, .ref r8, .int (nI L.length), .int (nI n), .int 0, .int ir])), (r3, .inl (K 0, 4, .inl fb)), (r4, .inl (K 0, 4, .inl fp)), (r7, .inl (K 0, 8, .inl gb)), (r8, .inl (K 0, 8, .inl gp))] H := hP
  have hD : va_D A [(r0, .inr (0, [.ref r1, .ref r2, .ref r3, .ref r4, .ref r5, .ref r6, .ref r7, .ref r8, .int (nI L.length), .int (nI n), .int 0, .int ir])), (r3, .inl (K 0, 4, .inl fb)), (r4, .inl (K 0, 4, .inl fp)), (r7, .inl (K 0, 8, .inl gb)), (r8, .inl (K 0, 8, .inl gp))] := hD
  refine lv_iconst (v := 0) hx hb dX0_keepLeast_5 (by decide) ?_
  refine lv_istore_n (lv' := [(2, .int 0), (0, .ref r0), (1, .int (nI lim))]) hx hb dX0_keepLeast_6 rfl hl (by decide) rfl (fun ls hl => ?_)
  have e1 : 0 = (nI ((kpL L lim 0).length)) := rfl
  rw [e1] at hP hD
  have hP : va_P D vwCl [(r0, .inr (0, [.ref r1, .ref r2, .ref r3, .ref r4, .ref r5, .ref r6, .ref r7, .ref r8, .int (nI L.length), .int (nI n), .int (nI ((kpL L lim 0).length)), .int ir])), (r3, .inl (K 0, 4, .inl fb)), (r4, .inl (K 0, 4, .inl fp)), (r7, .inl (K 0, 8, .inl gb)), (r8, .inl (K 0, 8, .inl gp))] H := hP
  have hD : va_D A [(r0, .inr (0, [.ref r1, .ref r2, .ref r3, .ref r4, .ref r5, .ref r6, .ref r7, .ref r8, .int (nI L.length), .int (nI n), .int (nI ((kpL L lim 0).length)), .int ir])), (r3, .inl (K 0, 4, .inl fb)), (r4, .inl (K 0, 4, .inl fp)), (r7, .inl (K 0, 8, .inl gb)), (r8, .inl (K 0, 8, .inl gp))] := hD
  refine g_loopW (st := []) (N := L.length) (fun t H locs ls => ∃ fb : Nat → Int32, ∃ fp : Nat → Int32, (hol (kpL L lim t) fb fp) ∧ va_P D vwCl [(r0, .inr (0, [.ref r1, .ref r2, .ref r3, .ref r4, .ref r5, .ref r6, .ref r7, .ref r8, .int (nI L.length), .int (nI n), .int (nI ((kpL L lim t).length)), .int ir])), (r3, .inl (K 0, 4, .inl fb)), (r4, .inl (K 0, 4, .inl fp)), (r7, .inl (K 0, 8, .inl gb)), (r8, .inl (K 0, 8, .inl gp))] H ∧ va_D A [(r0, .inr (0, [.ref r1, .ref r2, .ref r3, .ref r4, .ref r5, .ref r6, .ref r7, .ref r8, .int (nI L.length), .int (nI n), .int (nI ((kpL L lim t).length)), .int ir])), (r3, .inl (K 0, 4, .inl fb)), (r4, .inl (K 0, 4, .inl fp)), (r7, .inl (K 0, 8, .inl gb)), (r8, .inl (K 0, 8, .inl gp))] ∧ va_S A s.heap H locs ∧ lv_has ls 3 [(2, .int (nI t)), (0, .ref r0), (1, .int (nI lim))]) 0 (Nat.zero_le _) ?_ ?_ ?_
  · intro H locs ls hI
    obtain ⟨fb, fp, hh, hP, hD, hS, hl⟩ := hI
    refine lv_iload_n hx hb dX0_keepLeast_7 rfl (lv_at hl 0 rfl) ?_
    refine lv_aload_n hx hb dX0_keepLeast_8 rfl (lv_at hl 1 rfl) ?_
    refine va_get (D := D) (ci := 0) (v := .int (nI L.length)) (C := RX0) (T := TX0) (N := 12) hx hb hts hi0 hown hK hP 0 rfl rfl 8 (by decide) (hts (.fieldLink RX0 87 "PairedChannels$Reading" "grown" "I") (List.mem_of_getElem? (i := 2) (by decide +kernel))) (fun _ h9 => h9) rfl dX0_keepLeast_9 ?_
    refine lv_icmp_ge (tgt := 78) hx hb dX0_keepLeast_12 (by decide) (fun c3 => ?_) (fun c3 => ?_)
    · skip
      have c3 : L.length ≤ L.length := (nI_leI (a := L.length) (b := L.length) (by omega) (by omega)).mp c3
      exact gW_vret (fb, fp) hx hb hr hlk hK hP hD hS (hh) dX0_keepLeast_78
    · skip
      have c3 : ¬ L.length ≤ L.length := fun h9 => c3 ((nI_leI (a := L.length) (b := L.length) (by omega) (by omega)).mpr h9)
      omega
  · intro t ht ih2 H locs ls hI
    obtain ⟨fb, fp, hh, hP, hD, hS, hl⟩ := hI
    refine lv_iload_n hx hb dX0_keepLeast_7 rfl (lv_at hl 0 rfl) ?_
    refine lv_aload_n hx hb dX0_keepLeast_8 rfl (lv_at hl 1 rfl) ?_
    refine va_get (D := D) (ci := 0) (v := .int (nI L.length)) (C := RX0) (T := TX0) (N := 12) hx hb hts hi0 hown hK hP 0 rfl rfl 8 (by decide) (hts (.fieldLink RX0 87 "PairedChannels$Reading" "grown" "I") (List.mem_of_getElem? (i := 2) (by decide +kernel))) (fun _ h9 => h9) rfl dX0_keepLeast_9 ?_
    refine lv_icmp_ge (tgt := 78) hx hb dX0_keepLeast_12 (by decide) (fun c4 => ?_) (fun c4 => ?_)
    · skip
      have c4 : L.length ≤ t := (nI_leI (a := L.length) (b := t) (by omega) (by omega)).mp c4
      omega
    · skip
      have c4 : ¬ L.length ≤ t := fun h9 => c4 ((nI_leI (a := L.length) (b := t) (by omega) (by omega)).mpr h9)
      refine lv_aload_n hx hb dX0_keepLeast_15 rfl (lv_at hl 1 rfl) ?_
      refine lv_iload_n hx hb dX0_keepLeast_16 rfl (lv_at hl 0 rfl) ?_
      refine gR_i (va_runV (As := [.int (nI t)]) (rest := []) ⟨hx, hb, hml, hown, hts⟩ (c_X0_rankOfGrown l D K r0 r1 r2 r3 r4 r5 r6 r7 r8 n (nI ((kpL L lim t).length)) ir L.length gp t (by first | assumption | omega) (by first | assumption | omega) (hbq)) (cwV 1 hts gX0_keepLeast_X0_rankOfGrown rfl rfl rfl (by decide +kernel) ⟨Nat.le_of_ble_eq_true rfl, Nat.le_of_ble_eq_true rfl⟩) (gR_preV hE hS hK hP [0, 4] rfl 0 rfl rfl rfl) rfl rfl hl.1 rfl (lv_room (Nat.le_of_ble_eq_true rfl)) dX0_keepLeast_17 ⟨Nat.le_of_ble_eq_true rfl, Nat.le_of_ble_eq_true rfl⟩) hS hP (fun rv6 H locs h5 hP hS => ?_)
      have h5 : rv6 = nI (rkF gp t L.length) := h5
      subst h5
      refine lv_eqi (nI (rk L t)) (congrArg nI (hol_pen hL ht)) ?_
      refine lv_iload_n hx hb dX0_keepLeast_20 rfl (lv_at hl 2 rfl) ?_
      refine lv_icmp_ge (tgt := 72) hx hb dX0_keepLeast_21 (by decide) (fun c21 => ?_) (fun c21 => ?_)
      · skip
        have c21 : lim ≤ rk L t := (nI_leI (a := lim) (b := rk L t) (by omega) (by omega)).mp c21
        refine lv_iinc (v := nI (t + 1)) (lv' := [(2, .int (nI (t + 1))), (0, .ref r0), (1, .int (nI lim))]) hx hb dX0_keepLeast_72 hl (k := 0) rfl (nI_add t 1) (by decide) rfl (fun ls hl => ?_)
        refine lv_goto (tgt := 7) hx hb dX0_keepLeast_75 (by decide) ?_
        have e9 : (nI ((kpL L lim t).length)) = (nI ((kpL L lim t + 1).length)) := congrArg nI (by show _ = (if rk L t < lim then kpL L lim t ++ [atL L t] else kpL L lim t).length; first | (rw [if_neg (by omega)]; done) | rw [if_pos (by omega), len1])
        rw [e9] at hP hD
        exact ih2 H locs ls ⟨fb, fp, (by show hol (if rk L t < lim then kpL L lim t ++ [atL L t] else kpL L lim t) _ _; first | (rw [if_neg (by omega)]; exact hh) | (rw [if_pos (by omega), (hL t ht).1, (hL t ht).2]; exact hol_push1 hh _ rfl)), hP, hD, hS, lv_sub hl [0, 1, 2] rfl⟩
      · skip
        have c21 : ¬ lim ≤ rk L t := fun h9 => c21 ((nI_leI (a := lim) (b := rk L t) (by omega) (by omega)).mpr h9)
        have hro := kp_room (P := L) (lim := lim) ht (by omega)
        refine lv_aload_n hx hb dX0_keepLeast_24 rfl (lv_at hl 1 rfl) ?_
        refine va_get (D := D) (ci := 0) (v := .int (nI ((kpL L lim t).length))) (C := RX0) (T := TX0) (N := 12) hx hb hts hi0 hown hK hP 0 rfl rfl 10 (by decide) (hts (.fieldLink RX0 47 "PairedChannels$Reading" "paths" "I") (List.mem_of_getElem? (i := 1) (by decide +kernel))) (fun _ h9 => h9) rfl dX0_keepLeast_25 ?_
        refine lv_iconst (v := 4) hx hb dX0_keepLeast_28 (by decide) ?_
        refine lv_icmp_ge (tgt := 72) hx hb dX0_keepLeast_29 (by decide) (fun c8 => ?_) (fun c8 => ?_)
        · skip
          have c8 : 4 ≤ (kpL L lim t).length := (nI_leI (a := 4) (b := (kpL L lim t).length) (by omega) (by omega)).mp c8
          omega
        · skip
          have c8 : ¬ 4 ≤ (kpL L lim t).length := fun h9 => c8 ((nI_leI (a := 4) (b := (kpL L lim t).length) (by omega) (by omega)).mpr h9)
          refine lv_aload_n hx hb dX0_keepLeast_32 rfl (lv_at hl 1 rfl) ?_
          refine va_get (D := D) (ci := 0) (v := .ref r3) (C := RX0) (T := TX0) (N := 12) hx hb hts hi0 hown hK hP 0 rfl rfl 2 (by decide) (hts (.fieldLink RX0 18 "PairedChannels$Reading" "bits" "[I") (List.mem_of_getElem? (i := 3) (by decide +kernel))) (fun _ h9 => h9) rfl dX0_keepLeast_33 ?_
          refine lv_aload_n hx hb dX0_keepLeast_36 rfl (lv_at hl 1 rfl) ?_
          refine va_get (D := D) (ci := 0) (v := .int (nI ((kpL L lim t).length))) (C := RX0) (T := TX0) (N := 12) hx hb hts hi0 hown hK hP 0 rfl rfl 10 (by decide) (hts (.fieldLink RX0 47 "PairedChannels$Reading" "paths" "I") (List.mem_of_getElem? (i := 1) (by decide +kernel))) (fun _ h9 => h9) rfl dX0_keepLeast_37 ?_
          refine lv_aload_n hx hb dX0_keepLeast_40 rfl (lv_at hl 1 rfl) ?_
          refine va_get (D := D) (ci := 0) (v := .ref r7) (C := RX0) (T := TX0) (N := 12) hx hb hts hi0 hown hK hP 0 rfl rfl 6 (by decide) (hts (.fieldLink RX0 31 "PairedChannels$Reading" "grownBits" "[I") (List.mem_of_getElem? (i := 4) (by decide +kernel))) (fun _ h9 => h9) rfl dX0_keepLeast_41 ?_
          refine lv_iload_n hx hb dX0_keepLeast_44 rfl (lv_at hl 0 rfl) ?_
          refine wa_iald hx hb hK hP 3 0 rfl rfl (t) rfl (by omega) (by decide) dX0_keepLeast_45 ?_
          refine wa_iast (x := gb t) hx hb hK hP hD hS 1 0 rfl rfl ((kpL L lim t).length) rfl (by omega) (by decide) dX0_keepLeast_46 (fun H locs hP hD hS => ?_)
          have hP : va_P D vwCl [(r0, .inr (0, [.ref r1, .ref r2, .ref r3, .ref r4, .ref r5, .ref r6, .ref r7, .ref r8, .int (nI L.length), .int (nI n), .int (nI ((kpL L lim t).length)), .int ir])), (r3, .inl (K 0, 4, .inl (upd fb ((kpL L lim t).length) (gb t)))), (r4, .inl (K 0, 4, .inl fp)), (r7, .inl (K 0, 8, .inl gb)), (r8, .inl (K 0, 8, .inl gp))] H := hP
          have hD : va_D A [(r0, .inr (0, [.ref r1, .ref r2, .ref r3, .ref r4, .ref r5, .ref r6, .ref r7, .ref r8, .int (nI L.length), .int (nI n), .int (nI ((kpL L lim t).length)), .int ir])), (r3, .inl (K 0, 4, .inl (upd fb ((kpL L lim t).length) (gb t)))), (r4, .inl (K 0, 4, .inl fp)), (r7, .inl (K 0, 8, .inl gb)), (r8, .inl (K 0, 8, .inl gp))] := hD
          refine lv_aload_n hx hb dX0_keepLeast_47 rfl (lv_at hl 1 rfl) ?_
          refine va_get (D := D) (ci := 0) (v := .ref r4) (C := RX0) (T := TX0) (N := 12) hx hb hts hi0 hown hK hP 0 rfl rfl 3 (by decide) (hts (.fieldLink RX0 21 "PairedChannels$Reading" "penalties" "[I") (List.mem_of_getElem? (i := 5) (by decide +kernel))) (fun _ h9 => h9) rfl dX0_keepLeast_48 ?_
          refine lv_aload_n hx hb dX0_keepLeast_51 rfl (lv_at hl 1 rfl) ?_
          refine va_get (D := D) (ci := 0) (v := .int (nI ((kpL L lim t).length))) (C := RX0) (T := TX0) (N := 12) hx hb hts hi0 hown hK hP 0 rfl rfl 10 (by decide) (hts (.fieldLink RX0 47 "PairedChannels$Reading" "paths" "I") (List.mem_of_getElem? (i := 1) (by decide +kernel))) (fun _ h9 => h9) rfl dX0_keepLeast_52 ?_
          refine lv_aload_n hx hb dX0_keepLeast_55 rfl (lv_at hl 1 rfl) ?_
          refine va_get (D := D) (ci := 0) (v := .ref r8) (C := RX0) (T := TX0) (N := 12) hx hb hts hi0 hown hK hP 0 rfl rfl 7 (by decide) (hts (.fieldLink RX0 34 "PairedChannels$Reading" "grownPenalties" "[I") (List.mem_of_getElem? (i := 6) (by decide +kernel))) (fun _ h9 => h9) rfl dX0_keepLeast_56 ?_
          refine lv_iload_n hx hb dX0_keepLeast_59 rfl (lv_at hl 0 rfl) ?_
          refine wa_iald hx hb hK hP 4 0 rfl rfl (t) rfl (by omega) (by decide) dX0_keepLeast_60 ?_
          refine wa_iast (x := gp t) hx hb hK hP hD hS 2 0 rfl rfl ((kpL L lim t).length) rfl (by omega) (by decide) dX0_keepLeast_61 (fun H locs hP hD hS => ?_)
          have hP : va_P D vwCl [(r0, .inr (0, [.ref r1, .ref r2, .ref r3, .ref r4, .ref r5, .ref r6, .ref r7, .ref r8, .int (nI L.length), .int (nI n), .int (nI ((kpL L lim t).length)), .int ir])), (r3, .inl (K 0, 4, .inl (upd fb ((kpL L lim t).length) (gb t)))), (r4, .inl (K 0, 4, .inl (upd fp ((kpL L lim t).length) (gp t)))), (r7, .inl (K 0, 8, .inl gb)), (r8, .inl (K 0, 8, .inl gp))] H := hP
          have hD : va_D A [(r0, .inr (0, [.ref r1, .ref r2, .ref r3, .ref r4, .ref r5, .ref r6, .ref r7, .ref r8, .int (nI L.length), .int (nI n), .int (nI ((kpL L lim t).length)), .int ir])), (r3, .inl (K 0, 4, .inl (upd fb ((kpL L lim t).length) (gb t)))), (r4, .inl (K 0, 4, .inl (upd fp ((kpL L lim t).length) (gp t)))), (r7, .inl (K 0, 8, .inl gb)), (r8, .inl (K 0, 8, .inl gp))] := hD
          refine lv_aload_n hx hb dX0_keepLeast_62 rfl (lv_at hl 1 rfl) ?_
          refine lv_dup hx hb dX0_keepLeast_63 rfl ?_
          refine va_get (D := D) (ci := 0) (v := .int (nI ((kpL L lim t).length))) (C := RX0) (T := TX0) (N := 12) hx hb hts hi0 hown hK hP 0 rfl rfl 10 (by decide) (hts (.fieldLink RX0 47 "PairedChannels$Reading" "paths" "I") (List.mem_of_getElem? (i := 1) (by decide +kernel))) (fun _ h9 => h9) rfl dX0_keepLeast_64 ?_
          refine lv_iconst (v := 1) hx hb dX0_keepLeast_67 (by decide) ?_
          refine lv_iadd hx hb dX0_keepLeast_68 ?_
          refine lv_eqi (nI ((kpL L lim t).length + 1)) (nI_add ((kpL L lim t).length) 1) ?_
          refine va_put (D := D) (ci := 0) (v := .int (nI ((kpL L lim t).length + 1))) (ty := .int) (C := RX0) (T := TX0) (N := 12) hx hb hts hi0 tyX0 tyX0_ok nmX0 hown hK hP hD hS 0 rfl rfl 10 (by decide) (hts (.fieldLink RX0 47 "PairedChannels$Reading" "paths" "I") (List.mem_of_getElem? (i := 1) (by decide +kernel))) (fun _ h9 => h9) rfl (by decide +kernel) (rfl) (rfl) (Nat.le_of_ble_eq_true rfl) dX0_keepLeast_69 (fun H locs hP hD hS => ?_)
          have hP : va_P D vwCl [(r0, .inr (0, [.ref r1, .ref r2, .ref r3, .ref r4, .ref r5, .ref r6, .ref r7, .ref r8, .int (nI L.length), .int (nI n), .int (nI ((kpL L lim t).length + 1)), .int ir])), (r3, .inl (K 0, 4, .inl (upd fb ((kpL L lim t).length) (gb t)))), (r4, .inl (K 0, 4, .inl (upd fp ((kpL L lim t).length) (gp t)))), (r7, .inl (K 0, 8, .inl gb)), (r8, .inl (K 0, 8, .inl gp))] H := hP
          have hD : va_D A [(r0, .inr (0, [.ref r1, .ref r2, .ref r3, .ref r4, .ref r5, .ref r6, .ref r7, .ref r8, .int (nI L.length), .int (nI n), .int (nI ((kpL L lim t).length + 1)), .int ir])), (r3, .inl (K 0, 4, .inl (upd fb ((kpL L lim t).length) (gb t)))), (r4, .inl (K 0, 4, .inl (upd fp ((kpL L lim t).length) (gp t)))), (r7, .inl (K 0, 8, .inl gb)), (r8, .inl (K 0, 8, .inl gp))] := hD
          refine lv_iinc (v := nI (t + 1)) (lv' := [(2, .int (nI (t + 1))), (0, .ref r0), (1, .int (nI lim))]) hx hb dX0_keepLeast_72 hl (k := 0) rfl (nI_add t 1) (by decide) rfl (fun ls hl => ?_)
          refine lv_goto (tgt := 7) hx hb dX0_keepLeast_75 (by decide) ?_
          have e9 : (nI ((kpL L lim t).length + 1)) = (nI ((kpL L lim t + 1).length)) := congrArg nI (by show _ = (if rk L t < lim then kpL L lim t ++ [atL L t] else kpL L lim t).length; first | (rw [if_neg (by omega)]; done) | rw [if_pos (by omega), len1])
          rw [e9] at hP hD
          exact ih2 H locs ls ⟨(upd fb ((kpL L lim t).length) (gb t)), (upd fp ((kpL L lim t).length) (gp t)), (by show hol (if rk L t < lim then kpL L lim t ++ [atL L t] else kpL L lim t) _ _; first | (rw [if_neg (by omega)]; exact hh) | (rw [if_pos (by omega), (hL t ht).1, (hL t ht).2]; exact hol_push1 hh _ rfl)), hP, hD, hS, lv_sub hl [0, 1, 2] rfl⟩
  · exact ⟨fb, fp, (hol_nil _ _), hP, hD, hS, lv_sub hl [0, 1, 2] rfl⟩

set_option maxHeartbeats 4000000 in
set_option maxRecDepth 100000 in
theorem c_X0_growPaths (l : Launch) (D : va_G) (K : Nat → ClassId) (r0 : Nat) (r1 : Nat) (r2 : Nat) (r3 : Nat) (r4 : Nat) (r5 : Nat) (r6 : Nat) (r7 : Nat) (r8 : Nat) (n : Nat) (ig : Int32) (ir : Int32) (P : PL) (pl : Nat) (o : Bool) (fr : Nat → Int32) (fw : Nat → Int32) (fb : Nat → Int32) (fp : Nat → Int32) (gb : Nat → Int32) (gp : Nat → Int32) (hn : okN n) (hp : pl < n) (hP4 : P.length ≤ 4) (hhP : hol P fb fp) : MWv l yX0_growPaths wsX0_growPaths ({ frames := 2, cells := 0, slots := 0, locals := 65 } : Room) D (gTy K) [.ref r0, .int (nI pl), .int (if o = true then 1 else 0)] [(r0, .inr (0, [.ref r1, .ref r2, .ref r3, .ref r4, .ref r5, .ref r6, .ref r7, .ref r8, .int ig, .int (nI n), .int (nI P.length), .int ir])), (r1, .inl (K 0, 16, .inl fr)), (r2, .inl (K 0, 16, .inl fw)), (r3, .inl (K 0, 4, .inl fb)), (r4, .inl (K 0, 4, .inl fp)), (r7, .inl (K 0, 8, .inl gb)), (r8, .inl (K 0, 8, .inl gp))] (fun (u : (Nat → Int32) × (Nat → Int32) × (Nat → Int32)) => [(r0, .inr (0, [.ref r1, .ref r2, .ref r3, .ref r4, .ref r5, .ref r6, .ref r7, .ref r8, .int (nI ((grw (hea n fr pl) pl o P).length)), .int (nI n), .int (nI P.length), .int ir])), (r1, .inl (K 0, 16, .inl fr)), (r2, .inl (K 0, 16, .inl u.1)), (r3, .inl (K 0, 4, .inl fb)), (r4, .inl (K 0, 4, .inl fp)), (r7, .inl (K 0, 8, .inl u.2.1)), (r8, .inl (K 0, 8, .inl u.2.2))]) (fun (u : (Nat → Int32) × (Nat → Int32) × (Nat → Int32)) => hol (grw (hea n fr pl) pl o P) u.2.1 u.2.2) 0 0 := by
  refine g_ofW (Qc := fun A => va_Qv _ (gB D (gTy K) A _) A) (cc := cX0_growPaths) (maxL := 5) (ret := none) (own := RX0) (by decide) rfl rfl (Nat.le_of_ble_eq_true rfl) ?_
  intro pp ee s mm below meth cc A hfx hnm hK hP hD hE hS hA ls hl
  obtain ⟨hx, hb, hr, hml, hown, hts, hlk⟩ := hfx
  have hl : lv_has ls 5 [(3, .int 0), (0, .ref r0), (1, .int (nI pl)), (2, .int (if o = true then 1 else 0))] := hl
  have hi0 : ∀ w ∈ u_ws RX0 TX0 12, w ∈ wsX0_growPaths := fun w h => List.mem_cons_of_mem _ (List.mem_append_right _ (h))
  have hnl := hn.le
  refine lv_aload_n hx hb dX0_growPaths_0 rfl (lv_at hl 0 rfl) ?_
  refine lv_iconst (v := 0) hx hb dX0_growPaths_1 (by decide) ?_
  refine va_put (D := D) (ci := 0) (v := .int 0) (ty := .int) (C := RX0) (T := TX0) (N := 12) hx hb hts hi0 tyX0 tyX0_ok nmX0 hown hK hP hD hS 0 rfl rfl 8 (by decide) (hts (.fieldLink RX0 87 "PairedChannels$Reading" "grown" "I") (List.mem_of_getElem? (i := 1) (by decide +kernel))) (fun _ h9 => h9) rfl (by decide +kernel) (rfl) (rfl) (Nat.le_of_ble_eq_true rfl) dX0_growPaths_2 (fun H locs hP hD hS => ?_)
  have hP : va_P D vwCl [(r0, .inr (0, [.ref r1, .ref r2, .ref r3, .ref r4, .ref r5, .ref r6, .ref r7, .ref r8, .int 0, .int (nI n), .int (nI P.length), .int ir])), (r1, .inl (K 0, 16, .inl fr)), (r2, .inl (K 0, 16, .inl fw)), (r3, .inl (K 0, 4, .inl fb)), (r4, .inl (K 0, 4, .inl fp)), (r7, .inl (K 0, 8, .inl gb)), (r8, .inl (K 0, 8, .inl gp))] H := hP
  have hD : va_D A [(r0, .inr (0, [.ref r1, .ref r2, .ref r3, .ref r4, .ref r5, .ref r6, .ref r7, .ref r8, .int 0, .int (nI n), .int (nI P.length), .int ir])), (r1, .inl (K 0, 16, .inl fr)), (r2, .inl (K 0, 16, .inl fw)), (r3, .inl (K 0, 4, .inl fb)), (r4, .inl (K 0, 4, .inl fp)), (r7, .inl (K 0, 8, .inl gb)), (r8, .inl (K 0, 8, .inl gp))] := hD
  refine lv_iconst (v := 0) hx hb dX0_growPaths_5 (by decide) ?_
  refine lv_istore_n (lv' := [(3, .int 0), (0, .ref r0), (1, .int (nI pl)), (2, .int (if o = true then 1 else 0))]) hx hb dX0_growPaths_6 rfl hl (by decide) rfl (fun ls hl => ?_)
  have e1 : 0 = (nI ((grT (hea n fr pl) pl o P 0).length)) := rfl
  rw [e1] at hP hD
  have hP : va_P D vwCl [(r0, .inr (0, [.ref r1, .ref r2, .ref r3, .ref r4, .ref r5, .ref r6, .ref r7, .ref r8, .int (nI ((grT (hea n fr pl) pl o P 0).length)), .int (nI n), .int (nI P.length), .int ir])), (r1, .inl (K 0, 16, .inl fr)), (r2, .inl (K 0, 16, .inl fw)), (r3, .inl (K 0, 4, .inl fb)), (r4, .inl (K 0, 4, .inl fp)), (r7, .inl (K 0, 8, .inl gb)), (r8, .inl (K 0, 8, .inl gp))] H := hP
  have hD : va_D A [(r0, .inr (0, [.ref r1, .ref r2, .ref r3, .ref r4, .ref r5, .ref r6, .ref r7, .ref r8, .int (nI ((grT (hea n fr pl) pl o P 0).length)), .int (nI n), .int (nI P.length), .int ir])), (r1, .inl (K 0, 16, .inl fr)), (r2, .inl (K 0, 16, .inl fw)), (r3, .inl (K 0, 4, .inl fb)), (r4, .inl (K 0, 4, .inl fp)), (r7, .inl (K 0, 8, .inl gb)), (r8, .inl (K 0, 8, .inl gp))] := hD
  refine g_loopW (st := []) (N := P.length) (fun t H locs ls => ∃ fw : Nat → Int32, ∃ gb : Nat → Int32, ∃ gp : Nat → Int32, (hol (grT (hea n fr pl) pl o P t) gb gp) ∧ va_P D vwCl [(r0, .inr (0, [.ref r1, .ref r2, .ref r3, .ref r4, .ref r5, .ref r6, .ref r7, .ref r8, .int (nI ((grT (hea n fr pl) pl o P t).length)), .int (nI n), .int (nI P.length), .int ir])), (r1, .inl (K 0, 16, .inl fr)), (r2, .inl (K 0, 16, .inl fw)), (r3, .inl (K 0, 4, .inl fb)), (r4, .inl (K 0, 4, .inl fp)), (r7, .inl (K 0, 8, .inl gb)), (r8, .inl (K 0, 8, .inl gp))] H ∧ va_D A [(r0, .inr (0, [.ref r1, .ref r2, .ref r3, .ref r4, .ref r5, .ref r6, .ref r7, .ref r8, .int (nI ((grT (hea n fr pl) pl o P t).length)), .int (nI n), .int (nI P.length), .int ir])), (r1, .inl (K 0, 16, .inl fr)), (r2, .inl (K 0, 16, .inl fw)), (r3, .inl (K 0, 4, .inl fb)), (r4, .inl (K 0, 4, .inl fp)), (r7, .inl (K 0, 8, .inl gb)), (r8, .inl (K 0, 8, .inl gp))] ∧ va_S A s.heap H locs ∧ lv_has ls 5 [(3, .int (nI t)), (0, .ref r0), (1, .int (nI pl)), (2, .int (if o = true then 1 else 0))]) 0 (Nat.zero_le _) ?_ ?_ ?_
  · intro H locs ls hI
    obtain ⟨fw, gb, gp, hh, hP, hD, hS, hl⟩ := hI
    refine lv_iload_n hx hb dX0_growPaths_7 rfl (lv_at hl 0 rfl) ?_
    refine lv_aload_n hx hb dX0_growPaths_8 rfl (lv_at hl 1 rfl) ?_
    refine va_get (D := D) (ci := 0) (v := .int (nI P.length)) (C := RX0) (T := TX0) (N := 12) hx hb hts hi0 hown hK hP 0 rfl rfl 10 (by decide) (hts (.fieldLink RX0 47 "PairedChannels$Reading" "paths" "I") (List.mem_of_getElem? (i := 2) (by decide +kernel))) (fun _ h9 => h9) rfl dX0_growPaths_9 ?_
    refine lv_icmp_ge (tgt := 104) hx hb dX0_growPaths_12 (by decide) (fun c3 => ?_) (fun c3 => ?_)
    · skip
      have c3 : P.length ≤ P.length := (nI_leI (a := P.length) (b := P.length) (by omega) (by omega)).mp c3
      exact gW_vret (fw, gb, gp) hx hb hr hlk hK hP hD hS (hh) dX0_growPaths_104
    · skip
      have c3 : ¬ P.length ≤ P.length := fun h9 => c3 ((nI_leI (a := P.length) (b := P.length) (by omega) (by omega)).mpr h9)
      omega
  · intro t ht ih2 H locs ls hI
    obtain ⟨fw, gb, gp, hh, hP, hD, hS, hl⟩ := hI
    have hgl := grT_le (hea n fr pl) pl o P t
    refine lv_iload_n hx hb dX0_growPaths_7 rfl (lv_at hl 0 rfl) ?_
    refine lv_aload_n hx hb dX0_growPaths_8 rfl (lv_at hl 1 rfl) ?_
    refine va_get (D := D) (ci := 0) (v := .int (nI P.length)) (C := RX0) (T := TX0) (N := 12) hx hb hts hi0 hown hK hP 0 rfl rfl 10 (by decide) (hts (.fieldLink RX0 47 "PairedChannels$Reading" "paths" "I") (List.mem_of_getElem? (i := 2) (by decide +kernel))) (fun _ h9 => h9) rfl dX0_growPaths_9 ?_
    refine lv_icmp_ge (tgt := 104) hx hb dX0_growPaths_12 (by decide) (fun c4 => ?_) (fun c4 => ?_)
    · skip
      have c4 : P.length ≤ t := (nI_leI (a := P.length) (b := t) (by omega) (by omega)).mp c4
      omega
    · skip
      have c4 : ¬ P.length ≤ t := fun h9 => c4 ((nI_leI (a := P.length) (b := t) (by omega) (by omega)).mpr h9)
      refine lv_iload_n hx hb dX0_growPaths_15 rfl (lv_at hl 0 rfl) ?_
      refine lv_iconst (v := 4) hx hb dX0_growPaths_16 (by decide) ?_
      refine lv_icmp_ge (tgt := 104) hx hb dX0_growPaths_17 (by decide) (fun c5 => ?_) (fun c5 => ?_)
      · skip
        have c5 : 4 ≤ t := (nI_leI (a := 4) (b := t) (by omega) (by omega)).mp c5
        omega
      · skip
        have c5 : ¬ 4 ≤ t := fun h9 => c5 ((nI_leI (a := 4) (b := t) (by omega) (by omega)).mpr h9)
        refine lv_aload_n hx hb dX0_growPaths_20 rfl (lv_at hl 1 rfl) ?_
        refine lv_aload_n hx hb dX0_growPaths_21 rfl (lv_at hl 1 rfl) ?_
        refine va_get (D := D) (ci := 0) (v := .ref r3) (C := RX0) (T := TX0) (N := 12) hx hb hts hi0 hown hK hP 0 rfl rfl 2 (by decide) (hts (.fieldLink RX0 18 "PairedChannels$Reading" "bits" "[I") (List.mem_of_getElem? (i := 3) (by decide +kernel))) (fun _ h9 => h9) rfl dX0_growPaths_22 ?_
        refine lv_iload_n hx hb dX0_growPaths_25 rfl (lv_at hl 0 rfl) ?_
        refine wa_iald hx hb hK hP 3 0 rfl rfl (t) rfl (by omega) (by decide) dX0_growPaths_26 ?_
        refine lv_eqi ((atL P t).1) ((hhP t ht).1) ?_
        refine lv_iload_n hx hb dX0_growPaths_27 rfl (lv_at hl 2 rfl) ?_
        refine gW_i (wr := [(r3, .inl (K 0, 4, .inl fb)), (r4, .inl (K 0, 4, .inl fp)), (r7, .inl (K 0, 8, .inl gb)), (r8, .inl (K 0, 8, .inl gp))]) (W2 := (fun (u : Nat → Int32) => [(r0, .inr (0, [.ref r1, .ref r2, .ref r3, .ref r4, .ref r5, .ref r6, .ref r7, .ref r8, .int (nI ((grT (hea n fr pl) pl o P t).length)), .int (nI n), .int (nI P.length), .int ir])), (r1, .inl (K 0, 16, .inl fr)), (r2, .inl (K 0, 16, .inl u)), (r3, .inl (K 0, 4, .inl fb)), (r4, .inl (K 0, 4, .inl fp)), (r7, .inl (K 0, 8, .inl gb)), (r8, .inl (K 0, 8, .inl gp))])) (va_runV (As := [.int ((atL P t).1), .int (nI pl)]) (rest := []) ⟨hx, hb, hml, hown, hts⟩ ((c_X0_hear l D K r0 r1 r2 r3 r4 r5 r6 r7 r8 n (nI ((grT (hea n fr pl) pl o P t).length)) (nI P.length) ir ((atL P t).1) pl fr fw (by first | assumption | omega) (by first | assumption | omega)) H.size) (cwV 2 hts gX0_growPaths_X0_hear rfl rfl rfl (by decide +kernel) ⟨Nat.le_of_ble_eq_true rfl, Nat.le_of_ble_eq_true rfl⟩) (gW_preV hE hS hK hP hD hA [0, 1, 2] rfl (by decide) 0 rfl rfl rfl) rfl rfl hl.1 rfl (lv_room (Nat.le_of_ble_eq_true rfl)) dX0_growPaths_28 ⟨Nat.le_of_ble_eq_true rfl, Nat.le_of_ble_eq_true rfl⟩) hS hP hD hA [0, 1, 2] [3, 4, 5, 6] [4, 5, 6, 0, 1, 2, 3] rfl rfl (by decide) (by decide) (by decide) (fun _ => rfl) (fun rv8 u6 H locs h7 hP hD hS => ?_)
        have hP : va_P D vwCl [(r0, .inr (0, [.ref r1, .ref r2, .ref r3, .ref r4, .ref r5, .ref r6, .ref r7, .ref r8, .int (nI ((grT (hea n fr pl) pl o P t).length)), .int (nI n), .int (nI P.length), .int ir])), (r1, .inl (K 0, 16, .inl fr)), (r2, .inl (K 0, 16, .inl u6)), (r3, .inl (K 0, 4, .inl fb)), (r4, .inl (K 0, 4, .inl fp)), (r7, .inl (K 0, 8, .inl gb)), (r8, .inl (K 0, 8, .inl gp))] H := hP
        have hD : va_D A [(r0, .inr (0, [.ref r1, .ref r2, .ref r3, .ref r4, .ref r5, .ref r6, .ref r7, .ref r8, .int (nI ((grT (hea n fr pl) pl o P t).length)), .int (nI n), .int (nI P.length), .int ir])), (r1, .inl (K 0, 16, .inl fr)), (r2, .inl (K 0, 16, .inl u6)), (r3, .inl (K 0, 4, .inl fb)), (r4, .inl (K 0, 4, .inl fp)), (r7, .inl (K 0, 8, .inl gb)), (r8, .inl (K 0, 8, .inl gp))] := hD
        have h7 : rv8 = hea n fr pl ((atL P t).1) := h7
        subst h7
        refine lv_istore (lv' := [(4, .int (hea n fr pl (atL P t).1)), (3, .int (nI t)), (0, .ref r0), (1, .int (nI pl)), (2, .int (if o = true then 1 else 0))]) hx hb dX0_growPaths_31 hl (by decide) rfl (fun ls hl => ?_)
        refine lv_aload_n hx hb dX0_growPaths_33 rfl (lv_at hl 2 rfl) ?_
        refine lv_aload_n hx hb dX0_growPaths_34 rfl (lv_at hl 2 rfl) ?_
        refine va_get (D := D) (ci := 0) (v := .ref r3) (C := RX0) (T := TX0) (N := 12) hx hb hts hi0 hown hK hP 0 rfl rfl 2 (by decide) (hts (.fieldLink RX0 18 "PairedChannels$Reading" "bits" "[I") (List.mem_of_getElem? (i := 3) (by decide +kernel))) (fun _ h9 => h9) rfl dX0_growPaths_35 ?_
        refine lv_iload_n hx hb dX0_growPaths_38 rfl (lv_at hl 1 rfl) ?_
        refine wa_iald hx hb hK hP 3 0 rfl rfl (t) rfl (by omega) (by decide) dX0_growPaths_39 ?_
        refine lv_eqi ((atL P t).1) ((hhP t ht).1) ?_
        refine lv_aload_n hx hb dX0_growPaths_40 rfl (lv_at hl 2 rfl) ?_
        refine va_get (D := D) (ci := 0) (v := .ref r4) (C := RX0) (T := TX0) (N := 12) hx hb hts hi0 hown hK hP 0 rfl rfl 3 (by decide) (hts (.fieldLink RX0 21 "PairedChannels$Reading" "penalties" "[I") (List.mem_of_getElem? (i := 4) (by decide +kernel))) (fun _ h9 => h9) rfl dX0_growPaths_41 ?_
        refine lv_iload_n hx hb dX0_growPaths_44 rfl (lv_at hl 1 rfl) ?_
        refine wa_iald hx hb hK hP 4 0 rfl rfl (t) rfl (by omega) (by decide) dX0_growPaths_45 ?_
        refine lv_eqi ((atL P t).2) ((hhP t ht).2) ?_
        refine lv_iload hx hb dX0_growPaths_46 (lv_at hl 0 rfl) ?_
        refine g_cut (F0 mm 58 ls [.int (if 0 ≤ (hea n fr pl (atL P t).1) then 0 else (-(hea n fr pl (atL P t).1))), .int ((atL P t).2), .int ((atL P t).1), .ref r0]) (fun hJ => ?_) ?_
        · refine lv_if_ge (tgt := 57) hx hb dX0_growPaths_48 (by decide) (fun c9 => ?_) (fun c9 => ?_)
          · skip
            refine lv_iconst (v := 0) hx hb dX0_growPaths_57 (by decide) ?_
            rw [if_pos c9] at hJ
            exact hJ
          · skip
            refine lv_iload hx hb dX0_growPaths_51 (lv_at hl 0 rfl) ?_
            refine lv_ineg hx hb dX0_growPaths_53 ?_
            refine lv_goto (tgt := 58) hx hb dX0_growPaths_54 (by decide) ?_
            rw [if_neg c9] at hJ
            exact hJ
        · skip
          refine lv_eqi ((if hea n fr pl (atL P t).1 < 0 then -(hea n fr pl (atL P t).1) else 0)) (ge_neg _) ?_
          refine lv_iadd hx hb dX0_growPaths_58 ?_
          refine gW_v (wr := [(r1, .inl (K 0, 16, .inl fr)), (r2, .inl (K 0, 16, .inl u6)), (r3, .inl (K 0, 4, .inl fb)), (r4, .inl (K 0, 4, .inl fp))]) (W2 := (fun (u : Unit) => [(r0, .inr (0, [.ref r1, .ref r2, .ref r3, .ref r4, .ref r5, .ref r6, .ref r7, .ref r8, .int (nI (((grT (hea n fr pl) pl o P t).length) + 1)), .int (nI n), .int (nI P.length), .int ir])), (r1, .inl (K 0, 16, .inl fr)), (r2, .inl (K 0, 16, .inl u6)), (r3, .inl (K 0, 4, .inl fb)), (r4, .inl (K 0, 4, .inl fp)), (r7, .inl (K 0, 8, .inl (upd gb ((grT (hea n fr pl) pl o P t).length) ((atL P t).1)))), (r8, .inl (K 0, 8, .inl (upd gp ((grT (hea n fr pl) pl o P t).length) ((atL P t).2 + (if hea n fr pl (atL P t).1 < 0 then -(hea n fr pl (atL P t).1) else 0)))))])) (va_runV (As := [.int ((atL P t).1), .int ((atL P t).2 + (if hea n fr pl (atL P t).1 < 0 then -(hea n fr pl (atL P t).1) else 0))]) (rest := []) ⟨hx, hb, hml, hown, hts⟩ ((c_X0_addGrown l D K r0 r1 r2 r3 r4 r5 r6 r7 r8 n (nI P.length) ir ((grT (hea n fr pl) pl o P t).length) gb gp ((atL P t).1) ((atL P t).2 + (if hea n fr pl (atL P t).1 < 0 then -(hea n fr pl (atL P t).1) else 0)) (by first | assumption | omega)) H.size) (cwV 2 hts gX0_growPaths_X0_addGrown rfl rfl rfl (by decide +kernel) ⟨Nat.le_of_ble_eq_true rfl, Nat.le_of_ble_eq_true rfl⟩) (gW_preV hE hS hK hP hD hA [0, 5, 6] rfl (by decide) 0 rfl rfl rfl) rfl rfl hl.1 rfl (lv_room (Nat.le_of_ble_eq_true rfl)) dX0_growPaths_59 ⟨Nat.le_of_ble_eq_true rfl, Nat.le_of_ble_eq_true rfl⟩) hS hP hD hA [0, 5, 6] [1, 2, 3, 4] [4, 0, 1, 2, 3, 5, 6] rfl rfl (by decide) (by decide) (by decide) (fun _ => rfl) (fun u10 H locs h11 hP hD hS => ?_)
          have hP : va_P D vwCl [(r0, .inr (0, [.ref r1, .ref r2, .ref r3, .ref r4, .ref r5, .ref r6, .ref r7, .ref r8, .int (nI (((grT (hea n fr pl) pl o P t).length) + 1)), .int (nI n), .int (nI P.length), .int ir])), (r1, .inl (K 0, 16, .inl fr)), (r2, .inl (K 0, 16, .inl u6)), (r3, .inl (K 0, 4, .inl fb)), (r4, .inl (K 0, 4, .inl fp)), (r7, .inl (K 0, 8, .inl (upd gb ((grT (hea n fr pl) pl o P t).length) ((atL P t).1)))), (r8, .inl (K 0, 8, .inl (upd gp ((grT (hea n fr pl) pl o P t).length) ((atL P t).2 + (if hea n fr pl (atL P t).1 < 0 then -(hea n fr pl (atL P t).1) else 0)))))] H := hP
          have hD : va_D A [(r0, .inr (0, [.ref r1, .ref r2, .ref r3, .ref r4, .ref r5, .ref r6, .ref r7, .ref r8, .int (nI (((grT (hea n fr pl) pl o P t).length) + 1)), .int (nI n), .int (nI P.length), .int ir])), (r1, .inl (K 0, 16, .inl fr)), (r2, .inl (K 0, 16, .inl u6)), (r3, .inl (K 0, 4, .inl fb)), (r4, .inl (K 0, 4, .inl fp)), (r7, .inl (K 0, 8, .inl (upd gb ((grT (hea n fr pl) pl o P t).length) ((atL P t).1)))), (r8, .inl (K 0, 8, .inl (upd gp ((grT (hea n fr pl) pl o P t).length) ((atL P t).2 + (if hea n fr pl (atL P t).1 < 0 then -(hea n fr pl (atL P t).1) else 0)))))] := hD
          refine lv_iload_n hx hb dX0_growPaths_62 rfl (lv_at hl 4 rfl) ?_
          refine lv_if_eq (tgt := 98) hx hb dX0_growPaths_63 (by decide) (fun c63 => ?_) (fun c63 => ?_)
          · skip
            have c63 : ¬ (o = true) := b_eq0 c63
            refine lv_iinc (v := nI (t + 1)) (lv' := [(3, .int (nI (t + 1))), (4, .int (hea n fr pl (atL P t).1)), (0, .ref r0), (1, .int (nI pl)), (2, .int (if o = true then 1 else 0))]) hx hb dX0_growPaths_98 hl (k := 1) rfl (nI_add t 1) (by decide) rfl (fun ls hl => ?_)
            refine lv_goto (tgt := 7) hx hb dX0_growPaths_101 (by decide) ?_
            have e9 : (nI (((grT (hea n fr pl) pl o P t).length) + 1)) = (nI ((grT (hea n fr pl) pl o P t + 1).length)) := congrArg nI (by first | rw [grT_t _ _ c63, len1, len1] | rw [grT_f _ _ c63, len1])
            rw [e9] at hP hD
            exact ih2 H locs ls ⟨u6, (upd gb ((grT (hea n fr pl) pl o P t).length) ((atL P t).1)), (upd gp ((grT (hea n fr pl) pl o P t).length) ((atL P t).2 + (if hea n fr pl (atL P t).1 < 0 then -(hea n fr pl (atL P t).1) else 0))), (by first | (rw [grT_t _ _ c63]; exact hol_push1 (hol_push1 hh (gA (hea n fr pl) (atL P t)) rfl) (gZ (hea n fr pl) pl (atL P t)) (len1 _ _)) | (rw [grT_f _ _ c63]; exact hol_push1 hh (gA (hea n fr pl) (atL P t)) rfl)), hP, hD, hS, lv_sub hl [0, 2, 3, 4] rfl⟩
          · skip
            have c63 : o = true := b_ne0 c63
            refine lv_aload_n hx hb dX0_growPaths_66 rfl (lv_at hl 2 rfl) ?_
            refine lv_aload_n hx hb dX0_growPaths_67 rfl (lv_at hl 2 rfl) ?_
            refine va_get (D := D) (ci := 0) (v := .ref r3) (C := RX0) (T := TX0) (N := 12) hx hb hts hi0 hown hK hP 0 rfl rfl 2 (by decide) (hts (.fieldLink RX0 18 "PairedChannels$Reading" "bits" "[I") (List.mem_of_getElem? (i := 3) (by decide +kernel))) (fun _ h9 => h9) rfl dX0_growPaths_68 ?_
            refine lv_iload_n hx hb dX0_growPaths_71 rfl (lv_at hl 1 rfl) ?_
            refine wa_iald hx hb hK hP 3 0 rfl rfl (t) rfl (by omega) (by decide) dX0_growPaths_72 ?_
            refine lv_eqi ((atL P t).1) ((hhP t ht).1) ?_
            refine lv_iconst (v := 1) hx hb dX0_growPaths_73 (by decide) ?_
            refine lv_iload_n hx hb dX0_growPaths_74 rfl (lv_at hl 3 rfl) ?_
            refine lv_ishl hx hb dX0_growPaths_75 ?_
            refine lv_ior hx hb dX0_growPaths_76 ?_
            refine lv_aload_n hx hb dX0_growPaths_77 rfl (lv_at hl 2 rfl) ?_
            refine va_get (D := D) (ci := 0) (v := .ref r4) (C := RX0) (T := TX0) (N := 12) hx hb hts hi0 hown hK hP 0 rfl rfl 3 (by decide) (hts (.fieldLink RX0 21 "PairedChannels$Reading" "penalties" "[I") (List.mem_of_getElem? (i := 4) (by decide +kernel))) (fun _ h9 => h9) rfl dX0_growPaths_78 ?_
            refine lv_iload_n hx hb dX0_growPaths_81 rfl (lv_at hl 1 rfl) ?_
            refine wa_iald hx hb hK hP 4 0 rfl rfl (t) rfl (by omega) (by decide) dX0_growPaths_82 ?_
            refine lv_eqi ((atL P t).2) ((hhP t ht).2) ?_
            refine lv_iload hx hb dX0_growPaths_83 (lv_at hl 0 rfl) ?_
            refine g_cut (F0 mm 94 ls [.int (if (hea n fr pl (atL P t).1) ≤ 0 then 0 else (hea n fr pl (atL P t).1)), .int ((atL P t).2), .int ((atL P t).1 ||| (1 <<< ((nI pl) &&& 31))), .ref r0]) (fun hJ => ?_) ?_
            · refine lv_if_le (tgt := 93) hx hb dX0_growPaths_85 (by decide) (fun c14 => ?_) (fun c14 => ?_)
              · skip
                refine lv_iconst (v := 0) hx hb dX0_growPaths_93 (by decide) ?_
                rw [if_pos c14] at hJ
                exact hJ
              · skip
                refine lv_iload hx hb dX0_growPaths_88 (lv_at hl 0 rfl) ?_
                refine lv_goto (tgt := 94) hx hb dX0_growPaths_90 (by decide) ?_
                rw [if_neg c14] at hJ
                exact hJ
            · skip
              refine lv_eqi ((if 0 < hea n fr pl (atL P t).1 then hea n fr pl (atL P t).1 else 0)) (le_pos _) ?_
              refine lv_iadd hx hb dX0_growPaths_94 ?_
              refine gW_v (wr := [(r1, .inl (K 0, 16, .inl fr)), (r2, .inl (K 0, 16, .inl u6)), (r3, .inl (K 0, 4, .inl fb)), (r4, .inl (K 0, 4, .inl fp))]) (W2 := (fun (u : Unit) => [(r0, .inr (0, [.ref r1, .ref r2, .ref r3, .ref r4, .ref r5, .ref r6, .ref r7, .ref r8, .int (nI ((((grT (hea n fr pl) pl o P t).length) + 1) + 1)), .int (nI n), .int (nI P.length), .int ir])), (r1, .inl (K 0, 16, .inl fr)), (r2, .inl (K 0, 16, .inl u6)), (r3, .inl (K 0, 4, .inl fb)), (r4, .inl (K 0, 4, .inl fp)), (r7, .inl (K 0, 8, .inl (upd (upd gb ((grT (hea n fr pl) pl o P t).length) ((atL P t).1)) (((grT (hea n fr pl) pl o P t).length) + 1) ((atL P t).1 ||| (1 <<< ((nI pl) &&& 31)))))), (r8, .inl (K 0, 8, .inl (upd (upd gp ((grT (hea n fr pl) pl o P t).length) ((atL P t).2 + (if hea n fr pl (atL P t).1 < 0 then -(hea n fr pl (atL P t).1) else 0))) (((grT (hea n fr pl) pl o P t).length) + 1) ((atL P t).2 + (if 0 < hea n fr pl (atL P t).1 then hea n fr pl (atL P t).1 else 0)))))])) (va_runV (As := [.int ((atL P t).1 ||| (1 <<< ((nI pl) &&& 31))), .int ((atL P t).2 + (if 0 < hea n fr pl (atL P t).1 then hea n fr pl (atL P t).1 else 0))]) (rest := []) ⟨hx, hb, hml, hown, hts⟩ ((c_X0_addGrown l D K r0 r1 r2 r3 r4 r5 r6 r7 r8 n (nI P.length) ir (((grT (hea n fr pl) pl o P t).length) + 1) (upd gb ((grT (hea n fr pl) pl o P t).length) ((atL P t).1)) (upd gp ((grT (hea n fr pl) pl o P t).length) ((atL P t).2 + (if hea n fr pl (atL P t).1 < 0 then -(hea n fr pl (atL P t).1) else 0))) ((atL P t).1 ||| (1 <<< ((nI pl) &&& 31))) ((atL P t).2 + (if 0 < hea n fr pl (atL P t).1 then hea n fr pl (atL P t).1 else 0)) (by first | assumption | omega)) H.size) (cwV 2 hts gX0_growPaths_X0_addGrown rfl rfl rfl (by decide +kernel) ⟨Nat.le_of_ble_eq_true rfl, Nat.le_of_ble_eq_true rfl⟩) (gW_preV hE hS hK hP hD hA [0, 5, 6] rfl (by decide) 0 rfl rfl rfl) rfl rfl hl.1 rfl (lv_room (Nat.le_of_ble_eq_true rfl)) dX0_growPaths_95 ⟨Nat.le_of_ble_eq_true rfl, Nat.le_of_ble_eq_true rfl⟩) hS hP hD hA [0, 5, 6] [1, 2, 3, 4] [4, 0, 1, 2, 3, 5, 6] rfl rfl (by decide) (by decide) (by decide) (fun _ => rfl) (fun u15 H locs h16 hP hD hS => ?_)
              have hP : va_P D vwCl [(r0, .inr (0, [.ref r1, .ref r2, .ref r3, .ref r4, .ref r5, .ref r6, .ref r7, .ref r8, .int (nI ((((grT (hea n fr pl) pl o P t).length) + 1) + 1)), .int (nI n), .int (nI P.length), .int ir])), (r1, .inl (K 0, 16, .inl fr)), (r2, .inl (K 0, 16, .inl u6)), (r3, .inl (K 0, 4, .inl fb)), (r4, .inl (K 0, 4, .inl fp)), (r7, .inl (K 0, 8, .inl (upd (upd gb ((grT (hea n fr pl) pl o P t).length) ((atL P t).1)) (((grT (hea n fr pl) pl o P t).length) + 1) ((atL P t).1 ||| (1 <<< ((nI pl) &&& 31)))))), (r8, .inl (K 0, 8, .inl (upd (upd gp ((grT (hea n fr pl) pl o P t).length) ((atL P t).2 + (if hea n fr pl (atL P t).1 < 0 then -(hea n fr pl (atL P t).1) else 0))) (((grT (hea n fr pl) pl o P t).length) + 1) ((atL P t).2 + (if 0 < hea n fr pl (atL P t).1 then hea n fr pl (atL P t).1 else 0)))))] H := hP
              have hD : va_D A [(r0, .inr (0, [.ref r1, .ref r2, .ref r3, .ref r4, .ref r5, .ref r6, .ref r7, .ref r8, .int (nI ((((grT (hea n fr pl) pl o P t).length) + 1) + 1)), .int (nI n), .int (nI P.length), .int ir])), (r1, .inl (K 0, 16, .inl fr)), (r2, .inl (K 0, 16, .inl u6)), (r3, .inl (K 0, 4, .inl fb)), (r4, .inl (K 0, 4, .inl fp)), (r7, .inl (K 0, 8, .inl (upd (upd gb ((grT (hea n fr pl) pl o P t).length) ((atL P t).1)) (((grT (hea n fr pl) pl o P t).length) + 1) ((atL P t).1 ||| (1 <<< ((nI pl) &&& 31)))))), (r8, .inl (K 0, 8, .inl (upd (upd gp ((grT (hea n fr pl) pl o P t).length) ((atL P t).2 + (if hea n fr pl (atL P t).1 < 0 then -(hea n fr pl (atL P t).1) else 0))) (((grT (hea n fr pl) pl o P t).length) + 1) ((atL P t).2 + (if 0 < hea n fr pl (atL P t).1 then hea n fr pl (atL P t).1 else 0)))))] := hD
              refine lv_iinc (v := nI (t + 1)) (lv' := [(3, .int (nI (t + 1))), (4, .int (hea n fr pl (atL P t).1)), (0, .ref r0), (1, .int (nI pl)), (2, .int (if o = true then 1 else 0))]) hx hb dX0_growPaths_98 hl (k := 1) rfl (nI_add t 1) (by decide) rfl (fun ls hl => ?_)
              refine lv_goto (tgt := 7) hx hb dX0_growPaths_101 (by decide) ?_
              have e9 : (nI ((((grT (hea n fr pl) pl o P t).length) + 1) + 1)) = (nI ((grT (hea n fr pl) pl o P t + 1).length)) := congrArg nI (by first | rw [grT_t _ _ c63, len1, len1] | rw [grT_f _ _ c63, len1])
              rw [e9] at hP hD
              exact ih2 H locs ls ⟨u6, (upd (upd gb ((grT (hea n fr pl) pl o P t).length) ((atL P t).1)) (((grT (hea n fr pl) pl o P t).length) + 1) ((atL P t).1 ||| (1 <<< ((nI pl) &&& 31)))), (upd (upd gp ((grT (hea n fr pl) pl o P t).length) ((atL P t).2 + (if hea n fr pl (atL P t).1 < 0 then -(hea n fr pl (atL P t).1) else 0))) (((grT (hea n fr pl) pl o P t).length) + 1) ((atL P t).2 + (if 0 < hea n fr pl (atL P t).1 then hea n fr pl (atL P t).1 else 0))), (by first | (rw [grT_t _ _ c63]; exact hol_push1 (hol_push1 hh (gA (hea n fr pl) (atL P t)) rfl) (gZ (hea n fr pl) pl (atL P t)) (len1 _ _)) | (rw [grT_f _ _ c63]; exact hol_push1 hh (gA (hea n fr pl) (atL P t)) rfl)), hP, hD, hS, lv_sub hl [0, 2, 3, 4] rfl⟩
  · exact ⟨fw, gb, gp, (hol_nil _ _), hP, hD, hS, lv_sub hl [0, 1, 2, 3] rfl⟩

set_option maxHeartbeats 4000000 in
set_option maxRecDepth 100000 in
theorem c_X0_orderByPenalties (l : Launch) (D : va_G) (K : Nat → ClassId) (r0 : Nat) (r1 : Nat) (r2 : Nat) (r3 : Nat) (r4 : Nat) (r5 : Nat) (r6 : Nat) (r7 : Nat) (r8 : Nat) (n : Nat) (ig : Int32) (ir : Int32) (P : PL) (fb : Nat → Int32) (fp : Nat → Int32) (gb : Nat → Int32) (gp : Nat → Int32) (hhP : hol P fb fp) (hP4 : P.length ≤ 4) (hbp : okP 100000 P) : MWv l yX0_orderByPenalties wsX0_orderByPenalties ({ frames := 1, cells := 0, slots := 0, locals := 24 } : Room) D (gTy K) [.ref r0] [(r0, .inr (0, [.ref r1, .ref r2, .ref r3, .ref r4, .ref r5, .ref r6, .ref r7, .ref r8, .int ig, .int (nI n), .int (nI P.length), .int ir])), (r3, .inl (K 0, 4, .inl fb)), (r4, .inl (K 0, 4, .inl fp)), (r7, .inl (K 0, 8, .inl gb)), (r8, .inl (K 0, 8, .inl gp))] (fun (u : (Nat → Int32) × (Nat → Int32) × (Nat → Int32) × (Nat → Int32)) => [(r0, .inr (0, [.ref r1, .ref r2, .ref r3, .ref r4, .ref r5, .ref r6, .ref r7, .ref r8, .int (nI P.length), .int (nI n), .int (nI P.length), .int ir])), (r3, .inl (K 0, 4, .inl u.1)), (r4, .inl (K 0, 4, .inl u.2.1)), (r7, .inl (K 0, 8, .inl u.2.2.1)), (r8, .inl (K 0, 8, .inl u.2.2.2))]) (fun (u : (Nat → Int32) × (Nat → Int32) × (Nat → Int32) × (Nat → Int32)) => hol (ordL P) u.1 u.2.1) 0 0 := by
  refine g_ofW (Qc := fun A => va_Qv _ (gB D (gTy K) A _) A) (cc := cX0_orderByPenalties) (maxL := 3) (ret := none) (own := RX0) (by decide) rfl rfl (Nat.le_of_ble_eq_true rfl) ?_
  intro pp ee s mm below meth cc A hfx hnm hK hP hD hE hS hA ls hl
  obtain ⟨hx, hb, hr, hml, hown, hts, hlk⟩ := hfx
  have hl : lv_has ls 3 [(1, .int 0), (0, .ref r0)] := hl
  have hi0 : ∀ w ∈ u_ws RX0 TX0 12, w ∈ wsX0_orderByPenalties := fun w h => List.mem_cons_of_mem _ (List.mem_append_right _ (h))
  refine lv_aload_n hx hb dX0_orderByPenalties_0 rfl (lv_at hl 0 rfl) ?_
  refine lv_iconst (v := 0) hx hb dX0_orderByPenalties_1 (by decide) ?_
  refine va_put (D := D) (ci := 0) (v := .int 0) (ty := .int) (C := RX0) (T := TX0) (N := 12) hx hb hts hi0 tyX0 tyX0_ok nmX0 hown hK hP hD hS 0 rfl rfl 8 (by decide) (hts (.fieldLink RX0 87 "PairedChannels$Reading" "grown" "I") (List.mem_of_getElem? (i := 1) (by decide +kernel))) (fun _ h9 => h9) rfl (by decide +kernel) (rfl) (rfl) (Nat.le_of_ble_eq_true rfl) dX0_orderByPenalties_2 (fun H locs hP hD hS => ?_)
  have hP : va_P D vwCl [(r0, .inr (0, [.ref r1, .ref r2, .ref r3, .ref r4, .ref r5, .ref r6, .ref r7, .ref r8, .int 0, .int (nI n), .int (nI P.length), .int ir])), (r3, .inl (K 0, 4, .inl fb)), (r4, .inl (K 0, 4, .inl fp)), (r7, .inl (K 0, 8, .inl gb)), (r8, .inl (K 0, 8, .inl gp))] H := hP
  have hD : va_D A [(r0, .inr (0, [.ref r1, .ref r2, .ref r3, .ref r4, .ref r5, .ref r6, .ref r7, .ref r8, .int 0, .int (nI n), .int (nI P.length), .int ir])), (r3, .inl (K 0, 4, .inl fb)), (r4, .inl (K 0, 4, .inl fp)), (r7, .inl (K 0, 8, .inl gb)), (r8, .inl (K 0, 8, .inl gp))] := hD
  refine lv_iconst (v := 0) hx hb dX0_orderByPenalties_5 (by decide) ?_
  refine lv_istore_n (lv' := [(1, .int 0), (0, .ref r0)]) hx hb dX0_orderByPenalties_6 rfl hl (by decide) rfl (fun ls hl => ?_)
  have e1 : 0 = (nI 0) := rfl
  rw [e1] at hP hD
  have hP : va_P D vwCl [(r0, .inr (0, [.ref r1, .ref r2, .ref r3, .ref r4, .ref r5, .ref r6, .ref r7, .ref r8, .int (nI 0), .int (nI n), .int (nI P.length), .int ir])), (r3, .inl (K 0, 4, .inl fb)), (r4, .inl (K 0, 4, .inl fp)), (r7, .inl (K 0, 8, .inl gb)), (r8, .inl (K 0, 8, .inl gp))] H := hP
  have hD : va_D A [(r0, .inr (0, [.ref r1, .ref r2, .ref r3, .ref r4, .ref r5, .ref r6, .ref r7, .ref r8, .int (nI 0), .int (nI n), .int (nI P.length), .int ir])), (r3, .inl (K 0, 4, .inl fb)), (r4, .inl (K 0, 4, .inl fp)), (r7, .inl (K 0, 8, .inl gb)), (r8, .inl (K 0, 8, .inl gp))] := hD
  refine g_loopW (st := []) (N := P.length) (fun t H locs ls => ∃ gb : Nat → Int32, ∃ gp : Nat → Int32, (∀ i, i < t → gb i = fb i ∧ gp i = fp i) ∧ va_P D vwCl [(r0, .inr (0, [.ref r1, .ref r2, .ref r3, .ref r4, .ref r5, .ref r6, .ref r7, .ref r8, .int (nI t), .int (nI n), .int (nI P.length), .int ir])), (r3, .inl (K 0, 4, .inl fb)), (r4, .inl (K 0, 4, .inl fp)), (r7, .inl (K 0, 8, .inl gb)), (r8, .inl (K 0, 8, .inl gp))] H ∧ va_D A [(r0, .inr (0, [.ref r1, .ref r2, .ref r3, .ref r4, .ref r5, .ref r6, .ref r7, .ref r8, .int (nI t), .int (nI n), .int (nI P.length), .int ir])), (r3, .inl (K 0, 4, .inl fb)), (r4, .inl (K 0, 4, .inl fp)), (r7, .inl (K 0, 8, .inl gb)), (r8, .inl (K 0, 8, .inl gp))] ∧ va_S A s.heap H locs ∧ lv_has ls 3 [(1, .int (nI t)), (0, .ref r0)]) 0 (Nat.zero_le _) ?_ ?_ ?_
  · intro H locs ls hI
    obtain ⟨gb, gp, hh, hP, hD, hS, hl⟩ := hI
    have hL : hol P gb gp := fun i hi => by rw [(hh i hi).1, (hh i hi).2]; exact hhP i hi
    have hbq : ∀ t, t < P.length → 0 ≤ (gp t).toInt ∧ (gp t).toInt ≤ 100000 := fun t ht => by rw [(hL t ht).2]; exact hbp t ht
    refine lv_iload_n hx hb dX0_orderByPenalties_7 rfl (lv_at hl 0 rfl) ?_
    refine lv_aload_n hx hb dX0_orderByPenalties_8 rfl (lv_at hl 1 rfl) ?_
    refine va_get (D := D) (ci := 0) (v := .int (nI P.length)) (C := RX0) (T := TX0) (N := 12) hx hb hts hi0 hown hK hP 0 rfl rfl 10 (by decide) (hts (.fieldLink RX0 47 "PairedChannels$Reading" "paths" "I") (List.mem_of_getElem? (i := 2) (by decide +kernel))) (fun _ h9 => h9) rfl dX0_orderByPenalties_9 ?_
    refine lv_icmp_ge (tgt := 37) hx hb dX0_orderByPenalties_12 (by decide) (fun c3 => ?_) (fun c3 => ?_)
    · skip
      have c3 : P.length ≤ P.length := (nI_leI (a := P.length) (b := P.length) (by omega) (by omega)).mp c3
      refine lv_iconst (v := 0) hx hb dX0_orderByPenalties_37 (by decide) ?_
      refine lv_istore_n (lv' := [(1, .int 0), (0, .ref r0)]) hx hb dX0_orderByPenalties_38 rfl hl (by decide) rfl (fun ls hl => ?_)
      refine g_loopW (st := []) (N := P.length) (fun t H locs ls => ∃ f2 : Nat → Int32, ∃ p2 : Nat → Int32, (∀ i, i < t → f2 (rk P i) = (atL P i).1 ∧ p2 (rk P i) = (atL P i).2) ∧ va_P D vwCl [(r0, .inr (0, [.ref r1, .ref r2, .ref r3, .ref r4, .ref r5, .ref r6, .ref r7, .ref r8, .int (nI P.length), .int (nI n), .int (nI P.length), .int ir])), (r3, .inl (K 0, 4, .inl f2)), (r4, .inl (K 0, 4, .inl p2)), (r7, .inl (K 0, 8, .inl gb)), (r8, .inl (K 0, 8, .inl gp))] H ∧ va_D A [(r0, .inr (0, [.ref r1, .ref r2, .ref r3, .ref r4, .ref r5, .ref r6, .ref r7, .ref r8, .int (nI P.length), .int (nI n), .int (nI P.length), .int ir])), (r3, .inl (K 0, 4, .inl f2)), (r4, .inl (K 0, 4, .inl p2)), (r7, .inl (K 0, 8, .inl gb)), (r8, .inl (K 0, 8, .inl gp))] ∧ va_S A s.heap H locs ∧ lv_has ls 3 [(1, .int (nI t)), (0, .ref r0)]) 0 (Nat.zero_le _) ?_ ?_ ?_
      · intro H locs ls hI
        obtain ⟨f2, p2, h2, hP, hD, hS, hl⟩ := hI
        refine lv_iload_n hx hb dX0_orderByPenalties_39 rfl (lv_at hl 0 rfl) ?_
        refine lv_aload_n hx hb dX0_orderByPenalties_40 rfl (lv_at hl 1 rfl) ?_
        refine va_get (D := D) (ci := 0) (v := .int (nI P.length)) (C := RX0) (T := TX0) (N := 12) hx hb hts hi0 hown hK hP 0 rfl rfl 8 (by decide) (hts (.fieldLink RX0 87 "PairedChannels$Reading" "grown" "I") (List.mem_of_getElem? (i := 1) (by decide +kernel))) (fun _ h9 => h9) rfl dX0_orderByPenalties_41 ?_
        refine lv_icmp_ge (tgt := 88) hx hb dX0_orderByPenalties_44 (by decide) (fun c5 => ?_) (fun c5 => ?_)
        · skip
          have c5 : P.length ≤ P.length := (nI_leI (a := P.length) (b := P.length) (by omega) (by omega)).mp c5
          exact gW_vret (f2, p2, gb, gp) hx hb hr hlk hK hP hD hS (hol_ord h2) dX0_orderByPenalties_88
        · skip
          have c5 : ¬ P.length ≤ P.length := fun h9 => c5 ((nI_leI (a := P.length) (b := P.length) (by omega) (by omega)).mpr h9)
          omega
      · intro t ht ih4 H locs ls hI
        obtain ⟨f2, p2, h2, hP, hD, hS, hl⟩ := hI
        have hrl := rk_lt ht
        refine lv_iload_n hx hb dX0_orderByPenalties_39 rfl (lv_at hl 0 rfl) ?_
        refine lv_aload_n hx hb dX0_orderByPenalties_40 rfl (lv_at hl 1 rfl) ?_
        refine va_get (D := D) (ci := 0) (v := .int (nI P.length)) (C := RX0) (T := TX0) (N := 12) hx hb hts hi0 hown hK hP 0 rfl rfl 8 (by decide) (hts (.fieldLink RX0 87 "PairedChannels$Reading" "grown" "I") (List.mem_of_getElem? (i := 1) (by decide +kernel))) (fun _ h9 => h9) rfl dX0_orderByPenalties_41 ?_
        refine lv_icmp_ge (tgt := 88) hx hb dX0_orderByPenalties_44 (by decide) (fun c6 => ?_) (fun c6 => ?_)
        · skip
          have c6 : P.length ≤ t := (nI_leI (a := P.length) (b := t) (by omega) (by omega)).mp c6
          omega
        · skip
          have c6 : ¬ P.length ≤ t := fun h9 => c6 ((nI_leI (a := P.length) (b := t) (by omega) (by omega)).mpr h9)
          refine lv_aload_n hx hb dX0_orderByPenalties_47 rfl (lv_at hl 1 rfl) ?_
          refine lv_iload_n hx hb dX0_orderByPenalties_48 rfl (lv_at hl 0 rfl) ?_
          refine gR_i (va_runV (As := [.int (nI t)]) (rest := []) ⟨hx, hb, hml, hown, hts⟩ (c_X0_rankOfGrown l D K r0 r1 r2 r3 r4 r5 r6 r7 r8 n (nI P.length) ir P.length gp t (by omega) (by first | assumption | omega) (hbq)) (cwV 1 hts gX0_orderByPenalties_X0_rankOfGrown rfl rfl rfl (by decide +kernel) ⟨Nat.le_of_ble_eq_true rfl, Nat.le_of_ble_eq_true rfl⟩) (gR_preV hE hS hK hP [0, 4] rfl 0 rfl rfl rfl) rfl rfl hl.1 rfl (lv_room (Nat.le_of_ble_eq_true rfl)) dX0_orderByPenalties_49 ⟨Nat.le_of_ble_eq_true rfl, Nat.le_of_ble_eq_true rfl⟩) hS hP (fun rv8 H locs h7 hP hS => ?_)
          have h7 : rv8 = nI (rkF gp t P.length) := h7
          subst h7
          refine lv_eqi (nI (rk P t)) (congrArg nI (hol_pen hL ht)) ?_
          refine lv_istore_n (lv' := [(2, .int (nI (rk P t))), (1, .int (nI t)), (0, .ref r0)]) hx hb dX0_orderByPenalties_52 rfl hl (by decide) rfl (fun ls hl => ?_)
          refine lv_iload_n hx hb dX0_orderByPenalties_53 rfl (lv_at hl 0 rfl) ?_
          refine lv_iconst (v := 4) hx hb dX0_orderByPenalties_54 (by decide) ?_
          refine lv_icmp_ge (tgt := 82) hx hb dX0_orderByPenalties_55 (by decide) (fun c9 => ?_) (fun c9 => ?_)
          · skip
            have c9 : 4 ≤ rk P t := (nI_leI (a := 4) (b := rk P t) (by omega) (by omega)).mp c9
            omega
          · skip
            have c9 : ¬ 4 ≤ rk P t := fun h9 => c9 ((nI_leI (a := 4) (b := rk P t) (by omega) (by omega)).mpr h9)
            refine lv_aload_n hx hb dX0_orderByPenalties_58 rfl (lv_at hl 2 rfl) ?_
            refine va_get (D := D) (ci := 0) (v := .ref r3) (C := RX0) (T := TX0) (N := 12) hx hb hts hi0 hown hK hP 0 rfl rfl 2 (by decide) (hts (.fieldLink RX0 18 "PairedChannels$Reading" "bits" "[I") (List.mem_of_getElem? (i := 3) (by decide +kernel))) (fun _ h9 => h9) rfl dX0_orderByPenalties_59 ?_
            refine lv_iload_n hx hb dX0_orderByPenalties_62 rfl (lv_at hl 0 rfl) ?_
            refine lv_aload_n hx hb dX0_orderByPenalties_63 rfl (lv_at hl 2 rfl) ?_
            refine va_get (D := D) (ci := 0) (v := .ref r7) (C := RX0) (T := TX0) (N := 12) hx hb hts hi0 hown hK hP 0 rfl rfl 6 (by decide) (hts (.fieldLink RX0 31 "PairedChannels$Reading" "grownBits" "[I") (List.mem_of_getElem? (i := 5) (by decide +kernel))) (fun _ h9 => h9) rfl dX0_orderByPenalties_64 ?_
            refine lv_iload_n hx hb dX0_orderByPenalties_67 rfl (lv_at hl 1 rfl) ?_
            refine wa_iald hx hb hK hP 3 0 rfl rfl (t) rfl (by omega) (by decide) dX0_orderByPenalties_68 ?_
            refine wa_iast (x := gb t) hx hb hK hP hD hS 1 0 rfl rfl (rk P t) rfl (by omega) (by decide) dX0_orderByPenalties_69 (fun H locs hP hD hS => ?_)
            have hP : va_P D vwCl [(r0, .inr (0, [.ref r1, .ref r2, .ref r3, .ref r4, .ref r5, .ref r6, .ref r7, .ref r8, .int (nI P.length), .int (nI n), .int (nI P.length), .int ir])), (r3, .inl (K 0, 4, .inl (upd f2 (rk P t) (gb t)))), (r4, .inl (K 0, 4, .inl p2)), (r7, .inl (K 0, 8, .inl gb)), (r8, .inl (K 0, 8, .inl gp))] H := hP
            have hD : va_D A [(r0, .inr (0, [.ref r1, .ref r2, .ref r3, .ref r4, .ref r5, .ref r6, .ref r7, .ref r8, .int (nI P.length), .int (nI n), .int (nI P.length), .int ir])), (r3, .inl (K 0, 4, .inl (upd f2 (rk P t) (gb t)))), (r4, .inl (K 0, 4, .inl p2)), (r7, .inl (K 0, 8, .inl gb)), (r8, .inl (K 0, 8, .inl gp))] := hD
            refine lv_aload_n hx hb dX0_orderByPenalties_70 rfl (lv_at hl 2 rfl) ?_
            refine va_get (D := D) (ci := 0) (v := .ref r4) (C := RX0) (T := TX0) (N := 12) hx hb hts hi0 hown hK hP 0 rfl rfl 3 (by decide) (hts (.fieldLink RX0 21 "PairedChannels$Reading" "penalties" "[I") (List.mem_of_getElem? (i := 4) (by decide +kernel))) (fun _ h9 => h9) rfl dX0_orderByPenalties_71 ?_
            refine lv_iload_n hx hb dX0_orderByPenalties_74 rfl (lv_at hl 0 rfl) ?_
            refine lv_aload_n hx hb dX0_orderByPenalties_75 rfl (lv_at hl 2 rfl) ?_
            refine va_get (D := D) (ci := 0) (v := .ref r8) (C := RX0) (T := TX0) (N := 12) hx hb hts hi0 hown hK hP 0 rfl rfl 7 (by decide) (hts (.fieldLink RX0 34 "PairedChannels$Reading" "grownPenalties" "[I") (List.mem_of_getElem? (i := 6) (by decide +kernel))) (fun _ h9 => h9) rfl dX0_orderByPenalties_76 ?_
            refine lv_iload_n hx hb dX0_orderByPenalties_79 rfl (lv_at hl 1 rfl) ?_
            refine wa_iald hx hb hK hP 4 0 rfl rfl (t) rfl (by omega) (by decide) dX0_orderByPenalties_80 ?_
            refine wa_iast (x := gp t) hx hb hK hP hD hS 2 0 rfl rfl (rk P t) rfl (by omega) (by decide) dX0_orderByPenalties_81 (fun H locs hP hD hS => ?_)
            have hP : va_P D vwCl [(r0, .inr (0, [.ref r1, .ref r2, .ref r3, .ref r4, .ref r5, .ref r6, .ref r7, .ref r8, .int (nI P.length), .int (nI n), .int (nI P.length), .int ir])), (r3, .inl (K 0, 4, .inl (upd f2 (rk P t) (gb t)))), (r4, .inl (K 0, 4, .inl (upd p2 (rk P t) (gp t)))), (r7, .inl (K 0, 8, .inl gb)), (r8, .inl (K 0, 8, .inl gp))] H := hP
            have hD : va_D A [(r0, .inr (0, [.ref r1, .ref r2, .ref r3, .ref r4, .ref r5, .ref r6, .ref r7, .ref r8, .int (nI P.length), .int (nI n), .int (nI P.length), .int ir])), (r3, .inl (K 0, 4, .inl (upd f2 (rk P t) (gb t)))), (r4, .inl (K 0, 4, .inl (upd p2 (rk P t) (gp t)))), (r7, .inl (K 0, 8, .inl gb)), (r8, .inl (K 0, 8, .inl gp))] := hD
            refine lv_iinc (v := nI (t + 1)) (lv' := [(1, .int (nI (t + 1))), (2, .int (nI (rk P t))), (0, .ref r0)]) hx hb dX0_orderByPenalties_82 hl (k := 1) rfl (nI_add t 1) (by decide) rfl (fun ls hl => ?_)
            refine lv_goto (tgt := 39) hx hb dX0_orderByPenalties_85 (by decide) ?_
            exact ih4 H locs ls ⟨(upd f2 (rk P t) (gb t)), (upd p2 (rk P t) (gp t)), (fun i hi => by by_cases e : i = t; · subst e; exact ⟨pk_us.trans (hL i ht).1, pk_us.trans (hL i ht).2⟩; · rw [pk_un (fun h => e (rk_inj (by omega) ht h)), pk_un (fun h => e (rk_inj (by omega) ht h))]; exact h2 i (by omega)), hP, hD, hS, lv_sub hl [0, 2] rfl⟩
      · exact ⟨fb, fp, (fun i hi => absurd hi (Nat.not_lt_zero i)), hP, hD, hS, lv_sub hl [0, 1] rfl⟩
    · skip
      have c3 : ¬ P.length ≤ P.length := fun h9 => c3 ((nI_leI (a := P.length) (b := P.length) (by omega) (by omega)).mpr h9)
      omega
  · intro t ht ih2 H locs ls hI
    obtain ⟨gb, gp, hh, hP, hD, hS, hl⟩ := hI
    refine lv_iload_n hx hb dX0_orderByPenalties_7 rfl (lv_at hl 0 rfl) ?_
    refine lv_aload_n hx hb dX0_orderByPenalties_8 rfl (lv_at hl 1 rfl) ?_
    refine va_get (D := D) (ci := 0) (v := .int (nI P.length)) (C := RX0) (T := TX0) (N := 12) hx hb hts hi0 hown hK hP 0 rfl rfl 10 (by decide) (hts (.fieldLink RX0 47 "PairedChannels$Reading" "paths" "I") (List.mem_of_getElem? (i := 2) (by decide +kernel))) (fun _ h9 => h9) rfl dX0_orderByPenalties_9 ?_
    refine lv_icmp_ge (tgt := 37) hx hb dX0_orderByPenalties_12 (by decide) (fun c10 => ?_) (fun c10 => ?_)
    · skip
      have c10 : P.length ≤ t := (nI_leI (a := P.length) (b := t) (by omega) (by omega)).mp c10
      omega
    · skip
      have c10 : ¬ P.length ≤ t := fun h9 => c10 ((nI_leI (a := P.length) (b := t) (by omega) (by omega)).mpr h9)
      refine lv_aload_n hx hb dX0_orderByPenalties_15 rfl (lv_at hl 1 rfl) ?_
      refine lv_aload_n hx hb dX0_orderByPenalties_16 rfl (lv_at hl 1 rfl) ?_
      refine va_get (D := D) (ci := 0) (v := .ref r3) (C := RX0) (T := TX0) (N := 12) hx hb hts hi0 hown hK hP 0 rfl rfl 2 (by decide) (hts (.fieldLink RX0 18 "PairedChannels$Reading" "bits" "[I") (List.mem_of_getElem? (i := 3) (by decide +kernel))) (fun _ h9 => h9) rfl dX0_orderByPenalties_17 ?_
      refine lv_iload_n hx hb dX0_orderByPenalties_20 rfl (lv_at hl 0 rfl) ?_
      refine wa_iald hx hb hK hP 1 0 rfl rfl (t) rfl (by omega) (by decide) dX0_orderByPenalties_21 ?_
      refine lv_aload_n hx hb dX0_orderByPenalties_22 rfl (lv_at hl 1 rfl) ?_
      refine va_get (D := D) (ci := 0) (v := .ref r4) (C := RX0) (T := TX0) (N := 12) hx hb hts hi0 hown hK hP 0 rfl rfl 3 (by decide) (hts (.fieldLink RX0 21 "PairedChannels$Reading" "penalties" "[I") (List.mem_of_getElem? (i := 4) (by decide +kernel))) (fun _ h9 => h9) rfl dX0_orderByPenalties_23 ?_
      refine lv_iload_n hx hb dX0_orderByPenalties_26 rfl (lv_at hl 0 rfl) ?_
      refine wa_iald hx hb hK hP 2 0 rfl rfl (t) rfl (by omega) (by decide) dX0_orderByPenalties_27 ?_
      refine gW_v (wr := [(r3, .inl (K 0, 4, .inl fb)), (r4, .inl (K 0, 4, .inl fp))]) (W2 := (fun (u : Unit) => [(r0, .inr (0, [.ref r1, .ref r2, .ref r3, .ref r4, .ref r5, .ref r6, .ref r7, .ref r8, .int (nI (t + 1)), .int (nI n), .int (nI P.length), .int ir])), (r3, .inl (K 0, 4, .inl fb)), (r4, .inl (K 0, 4, .inl fp)), (r7, .inl (K 0, 8, .inl (upd gb t (fb t)))), (r8, .inl (K 0, 8, .inl (upd gp t (fp t))))])) (va_runV (As := [.int (fb t), .int (fp t)]) (rest := []) ⟨hx, hb, hml, hown, hts⟩ ((c_X0_addGrown l D K r0 r1 r2 r3 r4 r5 r6 r7 r8 n (nI P.length) ir t gb gp (fb t) (fp t) (by first | assumption | omega)) H.size) (cwV 2 hts gX0_orderByPenalties_X0_addGrown rfl rfl rfl (by decide +kernel) ⟨Nat.le_of_ble_eq_true rfl, Nat.le_of_ble_eq_true rfl⟩) (gW_preV hE hS hK hP hD hA [0, 3, 4] rfl (by decide) 0 rfl rfl rfl) rfl rfl hl.1 rfl (lv_room (Nat.le_of_ble_eq_true rfl)) dX0_orderByPenalties_28 ⟨Nat.le_of_ble_eq_true rfl, Nat.le_of_ble_eq_true rfl⟩) hS hP hD hA [0, 3, 4] [1, 2] [2, 0, 1, 3, 4] rfl rfl (by decide) (by decide) (by decide) (fun _ => rfl) (fun u11 H locs h12 hP hD hS => ?_)
      have hP : va_P D vwCl [(r0, .inr (0, [.ref r1, .ref r2, .ref r3, .ref r4, .ref r5, .ref r6, .ref r7, .ref r8, .int (nI (t + 1)), .int (nI n), .int (nI P.length), .int ir])), (r3, .inl (K 0, 4, .inl fb)), (r4, .inl (K 0, 4, .inl fp)), (r7, .inl (K 0, 8, .inl (upd gb t (fb t)))), (r8, .inl (K 0, 8, .inl (upd gp t (fp t))))] H := hP
      have hD : va_D A [(r0, .inr (0, [.ref r1, .ref r2, .ref r3, .ref r4, .ref r5, .ref r6, .ref r7, .ref r8, .int (nI (t + 1)), .int (nI n), .int (nI P.length), .int ir])), (r3, .inl (K 0, 4, .inl fb)), (r4, .inl (K 0, 4, .inl fp)), (r7, .inl (K 0, 8, .inl (upd gb t (fb t)))), (r8, .inl (K 0, 8, .inl (upd gp t (fp t))))] := hD
      refine lv_iinc (v := nI (t + 1)) (lv' := [(1, .int (nI (t + 1))), (0, .ref r0)]) hx hb dX0_orderByPenalties_31 hl (k := 0) rfl (nI_add t 1) (by decide) rfl (fun ls hl => ?_)
      refine lv_goto (tgt := 7) hx hb dX0_orderByPenalties_34 (by decide) ?_
      exact ih2 H locs ls ⟨(upd gb t (fb t)), (upd gp t (fp t)), (fun i hi => by by_cases e : i = t; · subst e; exact ⟨pk_us, pk_us⟩; · rw [pk_un e, pk_un e]; exact hh i (by omega)), hP, hD, hS, lv_sub hl [0, 1] rfl⟩
  · exact ⟨gb, gp, (fun i hi => absurd hi (Nat.not_lt_zero i)), hP, hD, hS, lv_sub hl [0, 1] rfl⟩

set_option maxHeartbeats 4000000 in
set_option maxRecDepth 100000 in
theorem c_X0_judge (l : Launch) (D : va_G) (K : Nat → ClassId) (r0 : Nat) (r1 : Nat) (r2 : Nat) (r3 : Nat) (r4 : Nat) (r5 : Nat) (r6 : Nat) (r7 : Nat) (r8 : Nat) (n : Nat) (ig : Int32) (ir : Int32) (h0 : Nat) (hv : Nat) (hs : Nat) (mask : Int32) (sf : Nat → Int32) (P : PL) (fb : Nat → Int32) (fm : Nat → Int32) (fi : Nat → Int32) (hn : okN n) (hm : okM mask n) (hsf : okS sf) (hP4 : P.length ≤ 4) (hfb : ∀ i, i < P.length → fb i = (atL P i).1) : MWv l yX0_judge wsX0_judge ({ frames := 4, cells := 0, slots := 0, locals := 80 } : Room) D (gTy K) [.ref r0, .ref h0] [(r0, .inr (0, [.ref r1, .ref r2, .ref r3, .ref r4, .ref r5, .ref r6, .ref r7, .ref r8, .int ig, .int (nI n), .int (nI P.length), .int ir])), (r3, .inl (K 0, 4, .inl fb)), (r5, .inl (K 0, 4, .inl fm)), (r6, .inl (K 1, 4, .inl fi)), (h0, .inr (2, [.ref hv, .ref hs, .int (nI n), .int mask])), (hs, .inl (K 0, 4, .inl sf))] (fun (u : (Nat → Int32) × (Nat → Int32)) => [(r0, .inr (0, [.ref r1, .ref r2, .ref r3, .ref r4, .ref r5, .ref r6, .ref r7, .ref r8, .int ig, .int (nI n), .int (nI P.length), .int (rrk n mask sf P P.length)])), (r3, .inl (K 0, 4, .inl fb)), (r5, .inl (K 0, 4, .inl u.1)), (r6, .inl (K 1, 4, .inl u.2)), (h0, .inr (2, [.ref hv, .ref hs, .int (nI n), .int mask])), (hs, .inl (K 0, 4, .inl sf))]) (fun (u : (Nat → Int32) × (Nat → Int32)) => ∀ i, i < P.length → u.1 i = msP n mask P i ∧ u.2 i = (if rgt n mask sf (msP n mask P i) then 1 else 0)) 0 0 := by
  refine g_ofW (Qc := fun A => va_Qv _ (gB D (gTy K) A _) A) (cc := cX0_judge) (maxL := 6) (ret := none) (own := RX0) (by decide) rfl rfl (Nat.le_of_ble_eq_true rfl) ?_
  intro pp ee s mm below meth cc A hfx hnm hK hP hD hE hS hA ls hl
  obtain ⟨hx, hb, hr, hml, hown, hts, hlk⟩ := hfx
  have hl : lv_has ls 6 [(4, .int 0), (3, .int (nI (ckB mask n sf))), (2, .int (nI (bdB mask n sf))), (0, .ref r0), (1, .ref h0)] := hl
  have hi0 : ∀ w ∈ u_ws RX0 TX0 12, w ∈ wsX0_judge := fun w h => List.mem_cons_of_mem _ (List.mem_append_left _ (List.mem_append_right _ (h)))
  have hb16 := Nat.le_trans (bdB_le mask n sf) hn.le.2
  refine lv_aload_n hx hb dX0_judge_0 rfl (lv_at hl 1 rfl) ?_
  refine gR_i (va_runV (As := []) (rest := []) ⟨hx, hb, hml, hown, hts⟩ (c_X2_bodyBits l D K h0 hv hs n mask sf (by first | assumption | omega) (by first | assumption | omega) (by first | assumption | omega)) (cwV 0 hts gX0_judge_X2_bodyBits rfl rfl rfl (by decide +kernel) ⟨Nat.le_of_ble_eq_true rfl, Nat.le_of_ble_eq_true rfl⟩) (gR_preV hE hS hK hP [4, 5] rfl 4 rfl rfl rfl) rfl rfl hl.1 rfl (lv_room (Nat.le_of_ble_eq_true rfl)) dX0_judge_1 ⟨Nat.le_of_ble_eq_true rfl, Nat.le_of_ble_eq_true rfl⟩) hS hP (fun rv2 H locs h1 hP hS => ?_)
  have h1 : rv2 = nI (bdB mask n sf) := h1
  subst h1
  refine lv_istore_n (lv' := [(2, .int (nI (bdB mask n sf))), (0, .ref r0), (1, .ref h0)]) hx hb dX0_judge_4 rfl hl (by decide) rfl (fun ls hl => ?_)
  refine lv_aload_n hx hb dX0_judge_5 rfl (lv_at hl 2 rfl) ?_
  refine gR_i (va_runV (As := []) (rest := []) ⟨hx, hb, hml, hown, hts⟩ (c_X2_checkBits l D K h0 hv hs n mask sf (by first | assumption | omega) (by first | assumption | omega) (by first | assumption | omega)) (cwV 0 hts gX0_judge_X2_checkBits rfl rfl rfl (by decide +kernel) ⟨Nat.le_of_ble_eq_true rfl, Nat.le_of_ble_eq_true rfl⟩) (gR_preV hE hS hK hP [4, 5] rfl 4 rfl rfl rfl) rfl rfl hl.1 rfl (lv_room (Nat.le_of_ble_eq_true rfl)) dX0_judge_6 ⟨Nat.le_of_ble_eq_true rfl, Nat.le_of_ble_eq_true rfl⟩) hS hP (fun rv4 H locs h3 hP hS => ?_)
  have h3 : rv4 = nI (ckB mask n sf) := h3
  subst h3
  refine lv_istore_n (lv' := [(3, .int (nI (ckB mask n sf))), (2, .int (nI (bdB mask n sf))), (0, .ref r0), (1, .ref h0)]) hx hb dX0_judge_9 rfl hl (by decide) rfl (fun ls hl => ?_)
  refine lv_aload_n hx hb dX0_judge_10 rfl (lv_at hl 2 rfl) ?_
  refine lv_iconst (v := (-1)) hx hb dX0_judge_11 (by decide) ?_
  refine va_put (D := D) (ci := 0) (v := .int (-1)) (ty := .int) (C := RX0) (T := TX0) (N := 12) hx hb hts hi0 tyX0 tyX0_ok nmX0 hown hK hP hD hS 0 rfl rfl 11 (by decide) (hts (.fieldLink RX0 69 "PairedChannels$Reading" "rankRead" "I") (List.mem_of_getElem? (i := 1) (by decide +kernel))) (fun _ h9 => h9) rfl (by decide +kernel) (rfl) (rfl) (Nat.le_of_ble_eq_true rfl) dX0_judge_12 (fun H locs hP hD hS => ?_)
  have hP : va_P D vwCl [(r0, .inr (0, [.ref r1, .ref r2, .ref r3, .ref r4, .ref r5, .ref r6, .ref r7, .ref r8, .int ig, .int (nI n), .int (nI P.length), .int (-1)])), (r3, .inl (K 0, 4, .inl fb)), (r5, .inl (K 0, 4, .inl fm)), (r6, .inl (K 1, 4, .inl fi)), (h0, .inr (2, [.ref hv, .ref hs, .int (nI n), .int mask])), (hs, .inl (K 0, 4, .inl sf))] H := hP
  have hD : va_D A [(r0, .inr (0, [.ref r1, .ref r2, .ref r3, .ref r4, .ref r5, .ref r6, .ref r7, .ref r8, .int ig, .int (nI n), .int (nI P.length), .int (-1)])), (r3, .inl (K 0, 4, .inl fb)), (r5, .inl (K 0, 4, .inl fm)), (r6, .inl (K 1, 4, .inl fi)), (h0, .inr (2, [.ref hv, .ref hs, .int (nI n), .int mask])), (hs, .inl (K 0, 4, .inl sf))] := hD
  refine lv_iconst (v := 0) hx hb dX0_judge_15 (by decide) ?_
  refine lv_istore (lv' := [(4, .int 0), (3, .int (nI (ckB mask n sf))), (2, .int (nI (bdB mask n sf))), (0, .ref r0), (1, .ref h0)]) hx hb dX0_judge_16 hl (by decide) rfl (fun ls hl => ?_)
  have e5 : (-1) = (rrk n mask sf P 0) := rfl
  rw [e5] at hP hD
  have hP : va_P D vwCl [(r0, .inr (0, [.ref r1, .ref r2, .ref r3, .ref r4, .ref r5, .ref r6, .ref r7, .ref r8, .int ig, .int (nI n), .int (nI P.length), .int (rrk n mask sf P 0)])), (r3, .inl (K 0, 4, .inl fb)), (r5, .inl (K 0, 4, .inl fm)), (r6, .inl (K 1, 4, .inl fi)), (h0, .inr (2, [.ref hv, .ref hs, .int (nI n), .int mask])), (hs, .inl (K 0, 4, .inl sf))] H := hP
  have hD : va_D A [(r0, .inr (0, [.ref r1, .ref r2, .ref r3, .ref r4, .ref r5, .ref r6, .ref r7, .ref r8, .int ig, .int (nI n), .int (nI P.length), .int (rrk n mask sf P 0)])), (r3, .inl (K 0, 4, .inl fb)), (r5, .inl (K 0, 4, .inl fm)), (r6, .inl (K 1, 4, .inl fi)), (h0, .inr (2, [.ref hv, .ref hs, .int (nI n), .int mask])), (hs, .inl (K 0, 4, .inl sf))] := hD
  refine g_loopW (st := []) (N := P.length) (fun t H locs ls => ∃ fm : Nat → Int32, ∃ fi : Nat → Int32, (∀ i, i < t → fm i = msP n mask P i ∧ fi i = (if rgt n mask sf (msP n mask P i) then 1 else 0)) ∧ va_P D vwCl [(r0, .inr (0, [.ref r1, .ref r2, .ref r3, .ref r4, .ref r5, .ref r6, .ref r7, .ref r8, .int ig, .int (nI n), .int (nI P.length), .int (rrk n mask sf P t)])), (r3, .inl (K 0, 4, .inl fb)), (r5, .inl (K 0, 4, .inl fm)), (r6, .inl (K 1, 4, .inl fi)), (h0, .inr (2, [.ref hv, .ref hs, .int (nI n), .int mask])), (hs, .inl (K 0, 4, .inl sf))] H ∧ va_D A [(r0, .inr (0, [.ref r1, .ref r2, .ref r3, .ref r4, .ref r5, .ref r6, .ref r7, .ref r8, .int ig, .int (nI n), .int (nI P.length), .int (rrk n mask sf P t)])), (r3, .inl (K 0, 4, .inl fb)), (r5, .inl (K 0, 4, .inl fm)), (r6, .inl (K 1, 4, .inl fi)), (h0, .inr (2, [.ref hv, .ref hs, .int (nI n), .int mask])), (hs, .inl (K 0, 4, .inl sf))] ∧ va_S A s.heap H locs ∧ lv_has ls 6 [(4, .int (nI t)), (3, .int (nI (ckB mask n sf))), (2, .int (nI (bdB mask n sf))), (0, .ref r0), (1, .ref h0)]) 0 (Nat.zero_le _) ?_ ?_ ?_
  · intro H locs ls hI
    obtain ⟨fm, fi, hh, hP, hD, hS, hl⟩ := hI
    refine lv_iload hx hb dX0_judge_18 (lv_at hl 0 rfl) ?_
    refine lv_aload_n hx hb dX0_judge_20 rfl (lv_at hl 3 rfl) ?_
    refine va_get (D := D) (ci := 0) (v := .int (nI P.length)) (C := RX0) (T := TX0) (N := 12) hx hb hts hi0 hown hK hP 0 rfl rfl 10 (by decide) (hts (.fieldLink RX0 47 "PairedChannels$Reading" "paths" "I") (List.mem_of_getElem? (i := 2) (by decide +kernel))) (fun _ h9 => h9) rfl dX0_judge_21 ?_
    refine lv_icmp_ge (tgt := 111) hx hb dX0_judge_24 (by decide) (fun c7 => ?_) (fun c7 => ?_)
    · skip
      have c7 : P.length ≤ P.length := (nI_leI (a := P.length) (b := P.length) (by omega) (by omega)).mp c7
      exact gW_vret (fm, fi) hx hb hr hlk hK hP hD hS (hh) dX0_judge_111
    · skip
      have c7 : ¬ P.length ≤ P.length := fun h9 => c7 ((nI_leI (a := P.length) (b := P.length) (by omega) (by omega)).mpr h9)
      omega
  · intro t ht ih6 H locs ls hI
    obtain ⟨fm, fi, hh, hP, hD, hS, hl⟩ := hI
    refine lv_iload hx hb dX0_judge_18 (lv_at hl 0 rfl) ?_
    refine lv_aload_n hx hb dX0_judge_20 rfl (lv_at hl 3 rfl) ?_
    refine va_get (D := D) (ci := 0) (v := .int (nI P.length)) (C := RX0) (T := TX0) (N := 12) hx hb hts hi0 hown hK hP 0 rfl rfl 10 (by decide) (hts (.fieldLink RX0 47 "PairedChannels$Reading" "paths" "I") (List.mem_of_getElem? (i := 2) (by decide +kernel))) (fun _ h9 => h9) rfl dX0_judge_21 ?_
    refine lv_icmp_ge (tgt := 111) hx hb dX0_judge_24 (by decide) (fun c8 => ?_) (fun c8 => ?_)
    · skip
      have c8 : P.length ≤ t := (nI_leI (a := P.length) (b := t) (by omega) (by omega)).mp c8
      omega
    · skip
      have c8 : ¬ P.length ≤ t := fun h9 => c8 ((nI_leI (a := P.length) (b := t) (by omega) (by omega)).mpr h9)
      refine lv_iload hx hb dX0_judge_27 (lv_at hl 0 rfl) ?_
      refine lv_iconst (v := 4) hx hb dX0_judge_29 (by decide) ?_
      refine lv_icmp_ge (tgt := 111) hx hb dX0_judge_30 (by decide) (fun c9 => ?_) (fun c9 => ?_)
      · skip
        have c9 : 4 ≤ t := (nI_leI (a := 4) (b := t) (by omega) (by omega)).mp c9
        omega
      · skip
        have c9 : ¬ 4 ≤ t := fun h9 => c9 ((nI_leI (a := 4) (b := t) (by omega) (by omega)).mpr h9)
        refine lv_aload_n hx hb dX0_judge_33 rfl (lv_at hl 4 rfl) ?_
        refine lv_aload_n hx hb dX0_judge_34 rfl (lv_at hl 3 rfl) ?_
        refine va_get (D := D) (ci := 0) (v := .ref r3) (C := RX0) (T := TX0) (N := 12) hx hb hts hi0 hown hK hP 0 rfl rfl 2 (by decide) (hts (.fieldLink RX0 18 "PairedChannels$Reading" "bits" "[I") (List.mem_of_getElem? (i := 3) (by decide +kernel))) (fun _ h9 => h9) rfl dX0_judge_35 ?_
        refine lv_iload hx hb dX0_judge_38 (lv_at hl 0 rfl) ?_
        refine wa_iald hx hb hK hP 1 0 rfl rfl (t) rfl (by omega) (by decide) dX0_judge_40 ?_
        refine lv_eqi ((atL P t).1) (hfb t ht) ?_
        refine gR_i (va_runV (As := [.int ((atL P t).1)]) (rest := []) ⟨hx, hb, hml, hown, hts⟩ (c_X2_messageOf l D K h0 hv hs n mask ((atL P t).1) (by first | assumption | omega)) (cwV 1 hts gX0_judge_X2_messageOf rfl rfl rfl (by decide +kernel) ⟨Nat.le_of_ble_eq_true rfl, Nat.le_of_ble_eq_true rfl⟩) (gR_preV hE hS hK hP [4] rfl 4 rfl rfl rfl) rfl rfl hl.1 rfl (lv_room (Nat.le_of_ble_eq_true rfl)) dX0_judge_41 ⟨Nat.le_of_ble_eq_true rfl, Nat.le_of_ble_eq_true rfl⟩) hS hP (fun rv11 H locs h10 hP hS => ?_)
        have h10 : rv11 = mso mask ((atL P t).1) n := h10
        subst h10
        refine lv_eqi (msP n mask P t) (rfl) ?_
        refine lv_istore (lv' := [(5, .int (msP n mask P t)), (4, .int (nI t)), (3, .int (nI (ckB mask n sf))), (2, .int (nI (bdB mask n sf))), (0, .ref r0), (1, .ref h0)]) hx hb dX0_judge_44 hl (by decide) rfl (fun ls hl => ?_)
        refine lv_aload_n hx hb dX0_judge_46 rfl (lv_at hl 4 rfl) ?_
        refine va_get (D := D) (ci := 0) (v := .ref r5) (C := RX0) (T := TX0) (N := 12) hx hb hts hi0 hown hK hP 0 rfl rfl 4 (by decide) (hts (.fieldLink RX0 24 "PairedChannels$Reading" "messages" "[I") (List.mem_of_getElem? (i := 4) (by decide +kernel))) (fun _ h9 => h9) rfl dX0_judge_47 ?_
        refine lv_iload hx hb dX0_judge_50 (lv_at hl 1 rfl) ?_
        refine lv_iload hx hb dX0_judge_52 (lv_at hl 0 rfl) ?_
        refine wa_iast (x := msP n mask P t) hx hb hK hP hD hS 2 0 rfl rfl (t) rfl (by omega) (by decide) dX0_judge_54 (fun H locs hP hD hS => ?_)
        have hP : va_P D vwCl [(r0, .inr (0, [.ref r1, .ref r2, .ref r3, .ref r4, .ref r5, .ref r6, .ref r7, .ref r8, .int ig, .int (nI n), .int (nI P.length), .int (rrk n mask sf P t)])), (r3, .inl (K 0, 4, .inl fb)), (r5, .inl (K 0, 4, .inl (upd fm t (msP n mask P t)))), (r6, .inl (K 1, 4, .inl fi)), (h0, .inr (2, [.ref hv, .ref hs, .int (nI n), .int mask])), (hs, .inl (K 0, 4, .inl sf))] H := hP
        have hD : va_D A [(r0, .inr (0, [.ref r1, .ref r2, .ref r3, .ref r4, .ref r5, .ref r6, .ref r7, .ref r8, .int ig, .int (nI n), .int (nI P.length), .int (rrk n mask sf P t)])), (r3, .inl (K 0, 4, .inl fb)), (r5, .inl (K 0, 4, .inl (upd fm t (msP n mask P t)))), (r6, .inl (K 1, 4, .inl fi)), (h0, .inr (2, [.ref hv, .ref hs, .int (nI n), .int mask])), (hs, .inl (K 0, 4, .inl sf))] := hD
        refine lv_aload_n hx hb dX0_judge_55 rfl (lv_at hl 4 rfl) ?_
        refine va_get (D := D) (ci := 0) (v := .ref r6) (C := RX0) (T := TX0) (N := 12) hx hb hts hi0 hown hK hP 0 rfl rfl 5 (by decide) (hts (.fieldLink RX0 27 "PairedChannels$Reading" "isRight" "[Z") (List.mem_of_getElem? (i := 5) (by decide +kernel))) (fun _ h9 => h9) rfl dX0_judge_56 ?_
        refine lv_iload hx hb dX0_judge_59 (lv_at hl 1 rfl) ?_
        refine lv_iload hx hb dX0_judge_61 (lv_at hl 0 rfl) ?_
        refine lv_iload_n hx hb dX0_judge_63 rfl (lv_at hl 3 rfl) ?_
        refine lv_ishr hx hb dX0_judge_64 ?_
        refine lv_iload hx hb dX0_judge_65 (lv_at hl 0 rfl) ?_
        refine lv_iload_n hx hb dX0_judge_67 rfl (lv_at hl 3 rfl) ?_
        refine lv_iload_n hx hb dX0_judge_68 rfl (lv_at hl 2 rfl) ?_
        refine gR_i (va_runSN (host := RX3) (As := [.int (msP n mask P t), .int (nI (bdB mask n sf)), .int (nI (ckB mask n sf))]) (rest := [.int ((msP n mask P t) >>> ((nI (bdB mask n sf)) &&& 31)), .int (nI t), .ref r6]) ⟨hx, hb, hml, hown, hts⟩ (c_X3_checkNumber l D K (msP n mask P t) (bdB mask n sf) (ckB mask n sf) (by first | assumption | omega)) ⟨va_cnB 3 hts gX0_judge_X3_checkNumber_n83 rfl rfl rfl (hE.1 _ (by decide +kernel)) (hts (.initialized RX3) (List.mem_of_getElem? (i := 43) (by decide +kernel))) (by decide +kernel) ⟨Nat.le_of_ble_eq_true rfl, Nat.le_of_ble_eq_true rfl⟩, (hts (.static yX3_checkNumber) (List.mem_of_getElem? (i := 42) (by decide +kernel))), trivial⟩ (gR_pre hE hS hK hP [] rfl) rfl rfl hl.1 rfl (lv_room (Nat.le_of_ble_eq_true rfl)) dX0_judge_69 ⟨Nat.le_of_ble_eq_true rfl, Nat.le_of_ble_eq_true rfl⟩) hS hP (fun rv13 H locs h12 hP hS => ?_)
        have h12 : rv13 = chk (msP n mask P t) (bdB mask n sf) (ckB mask n sf) := h12
        subst h12
        refine g_cut (F0 mm 80 ls [.int (if rgt n mask sf (msP n mask P t) then 1 else 0), .int (nI t), .ref r6]) (fun hJ => ?_) ?_
        · refine lv_icmp_ne (tgt := 79) hx hb dX0_judge_72 (by decide) (fun c14 => ?_) (fun c14 => ?_)
          · skip
            refine lv_iconst (v := 0) hx hb dX0_judge_79 (by decide) ?_
            rw [if_neg (fun h => h c14)] at hJ
            exact hJ
          · skip
            refine lv_iconst (v := 1) hx hb dX0_judge_75 (by decide) ?_
            refine lv_goto (tgt := 80) hx hb dX0_judge_76 (by decide) ?_
            rw [if_pos (by first | exact c14 | exact Decidable.not_not.mp c14 | exact (by simpa using c14))] at hJ
            exact hJ
        · skip
          refine wa_zast (x := (if rgt n mask sf (msP n mask P t) then 1 else 0)) hx hb hK hP hD hS 3 1 rfl rfl (t) rfl (by omega) (by decide) (vp_b _) dX0_judge_80 (fun H locs hP hD hS => ?_)
          have hP : va_P D vwCl [(r0, .inr (0, [.ref r1, .ref r2, .ref r3, .ref r4, .ref r5, .ref r6, .ref r7, .ref r8, .int ig, .int (nI n), .int (nI P.length), .int (rrk n mask sf P t)])), (r3, .inl (K 0, 4, .inl fb)), (r5, .inl (K 0, 4, .inl (upd fm t (msP n mask P t)))), (r6, .inl (K 1, 4, .inl (upd fi t (if rgt n mask sf (msP n mask P t) then 1 else 0)))), (h0, .inr (2, [.ref hv, .ref hs, .int (nI n), .int mask])), (hs, .inl (K 0, 4, .inl sf))] H := hP
          have hD : va_D A [(r0, .inr (0, [.ref r1, .ref r2, .ref r3, .ref r4, .ref r5, .ref r6, .ref r7, .ref r8, .int ig, .int (nI n), .int (nI P.length), .int (rrk n mask sf P t)])), (r3, .inl (K 0, 4, .inl fb)), (r5, .inl (K 0, 4, .inl (upd fm t (msP n mask P t)))), (r6, .inl (K 1, 4, .inl (upd fi t (if rgt n mask sf (msP n mask P t) then 1 else 0)))), (h0, .inr (2, [.ref hv, .ref hs, .int (nI n), .int mask])), (hs, .inl (K 0, 4, .inl sf))] := hD
          refine lv_aload_n hx hb dX0_judge_81 rfl (lv_at hl 4 rfl) ?_
          refine va_get (D := D) (ci := 0) (v := .ref r6) (C := RX0) (T := TX0) (N := 12) hx hb hts hi0 hown hK hP 0 rfl rfl 5 (by decide) (hts (.fieldLink RX0 27 "PairedChannels$Reading" "isRight" "[Z") (List.mem_of_getElem? (i := 5) (by decide +kernel))) (fun _ h9 => h9) rfl dX0_judge_82 ?_
          refine lv_iload hx hb dX0_judge_85 (lv_at hl 1 rfl) ?_
          refine wa_zald hx hb hK hP 3 1 rfl rfl (t) rfl (by omega) (by decide) dX0_judge_87 ?_
          refine lv_eqi ((if rgt n mask sf (msP n mask P t) then 1 else 0)) (pk_us) ?_
          refine lv_if_eq (tgt := 105) hx hb dX0_judge_88 (by decide) (fun c88 => ?_) (fun c88 => ?_)
          · skip
            have c88 : ¬ (rgt n mask sf (msP n mask P t)) := b_eq0 c88
            refine lv_iinc (v := nI (t + 1)) (lv' := [(4, .int (nI (t + 1))), (5, .int (msP n mask P t)), (3, .int (nI (ckB mask n sf))), (2, .int (nI (bdB mask n sf))), (0, .ref r0), (1, .ref h0)]) hx hb dX0_judge_105 hl (k := 1) rfl (nI_add t 1) (by decide) rfl (fun ls hl => ?_)
            refine lv_goto (tgt := 18) hx hb dX0_judge_108 (by decide) ?_
            have e9 : (rrk n mask sf P t) = (rrk n mask sf P t + 1) := by rw [rrk_s (by omega)]; first | rw [if_pos ⟨c88, c96⟩] | rw [if_neg (fun h => c96 h.2)] | rw [if_neg (fun h => c88 h.1)]
            rw [e9] at hP hD
            exact ih6 H locs ls ⟨(upd fm t (msP n mask P t)), (upd fi t (if rgt n mask sf (msP n mask P t) then 1 else 0)), (fun i hi => by by_cases e : i = t; · subst e; exact ⟨pk_us, pk_us⟩; · rw [pk_un e, pk_un e]; exact hh i (by omega)), hP, hD, hS, lv_sub hl [0, 2, 3, 4, 5] rfl⟩
          · skip
            have c88 : rgt n mask sf (msP n mask P t) := b_ne0 c88
            refine lv_aload_n hx hb dX0_judge_91 rfl (lv_at hl 4 rfl) ?_
            refine va_get (D := D) (ci := 0) (v := .int (rrk n mask sf P t)) (C := RX0) (T := TX0) (N := 12) hx hb hts hi0 hown hK hP 0 rfl rfl 11 (by decide) (hts (.fieldLink RX0 69 "PairedChannels$Reading" "rankRead" "I") (List.mem_of_getElem? (i := 1) (by decide +kernel))) (fun _ h9 => h9) rfl dX0_judge_92 ?_
            refine lv_iconst (v := (-1)) hx hb dX0_judge_95 (by decide) ?_
            refine lv_icmp_ne (tgt := 105) hx hb dX0_judge_96 (by decide) (fun c96 => ?_) (fun c96 => ?_)
            · skip
              refine lv_iinc (v := nI (t + 1)) (lv' := [(4, .int (nI (t + 1))), (5, .int (msP n mask P t)), (3, .int (nI (ckB mask n sf))), (2, .int (nI (bdB mask n sf))), (0, .ref r0), (1, .ref h0)]) hx hb dX0_judge_105 hl (k := 1) rfl (nI_add t 1) (by decide) rfl (fun ls hl => ?_)
              refine lv_goto (tgt := 18) hx hb dX0_judge_108 (by decide) ?_
              have e9 : (rrk n mask sf P t) = (rrk n mask sf P t + 1) := by rw [rrk_s (by omega)]; first | rw [if_pos ⟨c88, c96⟩] | rw [if_neg (fun h => c96 h.2)] | rw [if_neg (fun h => c88 h.1)]
              rw [e9] at hP hD
              exact ih6 H locs ls ⟨(upd fm t (msP n mask P t)), (upd fi t (if rgt n mask sf (msP n mask P t) then 1 else 0)), (fun i hi => by by_cases e : i = t; · subst e; exact ⟨pk_us, pk_us⟩; · rw [pk_un e, pk_un e]; exact hh i (by omega)), hP, hD, hS, lv_sub hl [0, 2, 3, 4, 5] rfl⟩
            · skip
              refine lv_aload_n hx hb dX0_judge_99 rfl (lv_at hl 4 rfl) ?_
              refine lv_iload hx hb dX0_judge_100 (lv_at hl 1 rfl) ?_
              refine va_put (D := D) (ci := 0) (v := .int (nI t)) (ty := .int) (C := RX0) (T := TX0) (N := 12) hx hb hts hi0 tyX0 tyX0_ok nmX0 hown hK hP hD hS 0 rfl rfl 11 (by decide) (hts (.fieldLink RX0 69 "PairedChannels$Reading" "rankRead" "I") (List.mem_of_getElem? (i := 1) (by decide +kernel))) (fun _ h9 => h9) rfl (by decide +kernel) (rfl) (rfl) (Nat.le_of_ble_eq_true rfl) dX0_judge_102 (fun H locs hP hD hS => ?_)
              have hP : va_P D vwCl [(r0, .inr (0, [.ref r1, .ref r2, .ref r3, .ref r4, .ref r5, .ref r6, .ref r7, .ref r8, .int ig, .int (nI n), .int (nI P.length), .int (nI t)])), (r3, .inl (K 0, 4, .inl fb)), (r5, .inl (K 0, 4, .inl (upd fm t (msP n mask P t)))), (r6, .inl (K 1, 4, .inl (upd fi t (if rgt n mask sf (msP n mask P t) then 1 else 0)))), (h0, .inr (2, [.ref hv, .ref hs, .int (nI n), .int mask])), (hs, .inl (K 0, 4, .inl sf))] H := hP
              have hD : va_D A [(r0, .inr (0, [.ref r1, .ref r2, .ref r3, .ref r4, .ref r5, .ref r6, .ref r7, .ref r8, .int ig, .int (nI n), .int (nI P.length), .int (nI t)])), (r3, .inl (K 0, 4, .inl fb)), (r5, .inl (K 0, 4, .inl (upd fm t (msP n mask P t)))), (r6, .inl (K 1, 4, .inl (upd fi t (if rgt n mask sf (msP n mask P t) then 1 else 0)))), (h0, .inr (2, [.ref hv, .ref hs, .int (nI n), .int mask])), (hs, .inl (K 0, 4, .inl sf))] := hD
              refine lv_iinc (v := nI (t + 1)) (lv' := [(4, .int (nI (t + 1))), (5, .int (msP n mask P t)), (3, .int (nI (ckB mask n sf))), (2, .int (nI (bdB mask n sf))), (0, .ref r0), (1, .ref h0)]) hx hb dX0_judge_105 hl (k := 1) rfl (nI_add t 1) (by decide) rfl (fun ls hl => ?_)
              refine lv_goto (tgt := 18) hx hb dX0_judge_108 (by decide) ?_
              have e9 : (nI t) = (rrk n mask sf P t + 1) := by rw [rrk_s (by omega)]; first | rw [if_pos ⟨c88, c96⟩] | rw [if_neg (fun h => c96 h.2)] | rw [if_neg (fun h => c88 h.1)]
              rw [e9] at hP hD
              exact ih6 H locs ls ⟨(upd fm t (msP n mask P t)), (upd fi t (if rgt n mask sf (msP n mask P t) then 1 else 0)), (fun i hi => by by_cases e : i = t; · subst e; exact ⟨pk_us, pk_us⟩; · rw [pk_un e, pk_un e]; exact hh i (by omega)), hP, hD, hS, lv_sub hl [0, 2, 3, 4, 5] rfl⟩
  · exact ⟨fm, fi, (fun i hi => absurd hi (Nat.not_lt_zero i)), hP, hD, hS, lv_sub hl [0, 1, 2, 3, 4] rfl⟩

set_option maxHeartbeats 4000000 in
set_option maxRecDepth 100000 in
theorem c_X0_messageRead (l : Launch) (D : va_G) (K : Nat → ClassId) (r0 : Nat) (r1 : Nat) (r2 : Nat) (r3 : Nat) (r4 : Nat) (r5 : Nat) (r6 : Nat) (r7 : Nat) (r8 : Nat) (n0 : Nat) (ig : Int32) (ip : Int32) (ir : Int32) (h0 : Nat) (hv : Nat) (hs : Nat) (n : Nat) (mask : Int32) (vf : Nat → Int32) (sf : Nat → Int32) (xf : Int32) (lim : Nat) (fl : Nat → Int32) (fr : Nat → Int32) (fw : Nat → Int32) (fb : Nat → Int32) (fp : Nat → Int32) (fm : Nat → Int32) (fi : Nat → Int32) (gb : Nat → Int32) (gp : Nat → Int32) (hn : okN n) (hm : okM mask n) (hsf : okS sf) (hl1 : 1 ≤ lim) (hl4 : lim ≤ 4) (hfl : ∀ j, j < 16 → fl j = (if bitI xf j = 1 then -(vf j) else vf j)) (hvl : okV fl) : MWi l yX0_messageRead wsX0_messageRead ({ frames := 5, cells := 0, slots := 0, locals := 105 } : Room) D (gTy K) [.ref r0, .ref h0, .int xf, .int (nI lim)] [(r0, .inr (0, [.ref r1, .ref r2, .ref r3, .ref r4, .ref r5, .ref r6, .ref r7, .ref r8, .int ig, .int (nI n0), .int ip, .int ir])), (r1, .inl (K 0, 16, .inl fr)), (r2, .inl (K 0, 16, .inl fw)), (r3, .inl (K 0, 4, .inl fb)), (r4, .inl (K 0, 4, .inl fp)), (r5, .inl (K 0, 4, .inl fm)), (r6, .inl (K 1, 4, .inl fi)), (r7, .inl (K 0, 8, .inl gb)), (r8, .inl (K 0, 8, .inl gp)), (h0, .inr (2, [.ref hv, .ref hs, .int (nI n), .int mask])), (hv, .inl (K 0, 16, .inl vf)), (hs, .inl (K 0, 4, .inl sf))] (fun (u : Int32 × (Nat → Int32) × (Nat → Int32) × (Nat → Int32) × (Nat → Int32) × (Nat → Int32) × (Nat → Int32) × (Nat → Int32)) => [(r0, .inr (0, [.ref r1, .ref r2, .ref r3, .ref r4, .ref r5, .ref r6, .ref r7, .ref r8, .int u.1, .int (nI n), .int (nI ((rdL n mask fl lim).length)), .int (rrk n mask sf (rdL n mask fl lim) (rdL n mask fl lim).length)])), (r1, .inl (K 0, 16, .inl fl)), (r2, .inl (K 0, 16, .inl u.2.1)), (r3, .inl (K 0, 4, .inl u.2.2.1)), (r4, .inl (K 0, 4, .inl u.2.2.2.1)), (r5, .inl (K 0, 4, .inl u.2.2.2.2.1)), (r6, .inl (K 1, 4, .inl u.2.2.2.2.2.1)), (r7, .inl (K 0, 8, .inl u.2.2.2.2.2.2.1)), (r8, .inl (K 0, 8, .inl u.2.2.2.2.2.2.2)), (h0, .inr (2, [.ref hv, .ref hs, .int (nI n), .int mask])), (hv, .inl (K 0, 16, .inl vf)), (hs, .inl (K 0, 4, .inl sf))]) (fun r (u : Int32 × (Nat → Int32) × (Nat → Int32) × (Nat → Int32) × (Nat → Int32) × (Nat → Int32) × (Nat → Int32) × (Nat → Int32)) => r = rdM n mask sf (rdL n mask fl lim) ∧ hol (rdL n mask fl lim) u.2.2.1 u.2.2.2.1 ∧ (∀ i, i < (rdL n mask fl lim).length → u.2.2.2.2.1 i = msP n mask (rdL n mask fl lim) i ∧ u.2.2.2.2.2.1 i = (if rgt n mask sf (msP n mask (rdL n mask fl lim) i) then 1 else 0))) 0 0 := by
  refine g_ofW (Qc := fun A => va_Qi _ (gB D (gTy K) A _) A) (cc := cX0_messageRead) (maxL := 5) (ret := (some .int)) (own := RX0) (by decide) rfl rfl (Nat.le_of_ble_eq_true rfl) ?_
  intro pp ee s mm below meth cc A hfx hnm hK hP hD hE hS hA ls hl
  obtain ⟨hx, hb, hr, hml, hown, hts, hlk⟩ := hfx
  have hl : lv_has ls 5 [(4, .int 0), (0, .ref r0), (1, .ref h0), (2, .int xf), (3, .int (nI lim))] := hl
  have hi0 : ∀ w ∈ u_ws RX0 TX0 12, w ∈ wsX0_messageRead := fun w h => List.mem_cons_of_mem _ (List.mem_append_right _ (h))
  have hi2 : ∀ w ∈ u_ws RX2 TX2 4, w ∈ wsX0_messageRead := fun w h => List.mem_cons_of_mem _ (List.mem_append_left _ (List.mem_append_right _ (h)))
  have hnl := hn.le
  have hll := rdL_len (n := n) (mask := mask) (vf := fl) hl1
  refine lv_aload_n hx hb dX0_messageRead_0 rfl (lv_at hl 0 rfl) ?_
  refine lv_aload_n hx hb dX0_messageRead_1 rfl (lv_at hl 1 rfl) ?_
  refine va_get (D := D) (ci := 2) (v := .int (nI n)) (C := RX2) (T := TX2) (N := 4) hx hb hts hi2 hown hK hP 9 rfl rfl 2 (by decide) (hts (.fieldLink RX0 37 "PairedChannels$Word" "places" "I") (List.mem_of_getElem? (i := 1) (by decide +kernel))) (fun _ h9 => h9) rfl dX0_messageRead_2 ?_
  refine va_put (D := D) (ci := 0) (v := .int (nI n)) (ty := .int) (C := RX0) (T := TX0) (N := 12) hx hb hts hi0 tyX0 tyX0_ok nmX0 hown hK hP hD hS 0 rfl rfl 9 (by decide) (hts (.fieldLink RX0 43 "PairedChannels$Reading" "places" "I") (List.mem_of_getElem? (i := 2) (by decide +kernel))) (fun _ h9 => h9) rfl (by decide +kernel) (rfl) (rfl) (Nat.le_of_ble_eq_true rfl) dX0_messageRead_5 (fun H locs hP hD hS => ?_)
  have hP : va_P D vwCl [(r0, .inr (0, [.ref r1, .ref r2, .ref r3, .ref r4, .ref r5, .ref r6, .ref r7, .ref r8, .int ig, .int (nI n), .int ip, .int ir])), (r1, .inl (K 0, 16, .inl fr)), (r2, .inl (K 0, 16, .inl fw)), (r3, .inl (K 0, 4, .inl fb)), (r4, .inl (K 0, 4, .inl fp)), (r5, .inl (K 0, 4, .inl fm)), (r6, .inl (K 1, 4, .inl fi)), (r7, .inl (K 0, 8, .inl gb)), (r8, .inl (K 0, 8, .inl gp)), (h0, .inr (2, [.ref hv, .ref hs, .int (nI n), .int mask])), (hv, .inl (K 0, 16, .inl vf)), (hs, .inl (K 0, 4, .inl sf))] H := hP
  have hD : va_D A [(r0, .inr (0, [.ref r1, .ref r2, .ref r3, .ref r4, .ref r5, .ref r6, .ref r7, .ref r8, .int ig, .int (nI n), .int ip, .int ir])), (r1, .inl (K 0, 16, .inl fr)), (r2, .inl (K 0, 16, .inl fw)), (r3, .inl (K 0, 4, .inl fb)), (r4, .inl (K 0, 4, .inl fp)), (r5, .inl (K 0, 4, .inl fm)), (r6, .inl (K 1, 4, .inl fi)), (r7, .inl (K 0, 8, .inl gb)), (r8, .inl (K 0, 8, .inl gp)), (h0, .inr (2, [.ref hv, .ref hs, .int (nI n), .int mask])), (hv, .inl (K 0, 16, .inl vf)), (hs, .inl (K 0, 4, .inl sf))] := hD
  refine lv_iconst (v := 0) hx hb dX0_messageRead_8 (by decide) ?_
  refine lv_istore (lv' := [(4, .int 0), (0, .ref r0), (1, .ref h0), (2, .int xf), (3, .int (nI lim))]) hx hb dX0_messageRead_9 hl (by decide) rfl (fun ls hl => ?_)
  refine g_loopW (st := []) (N := 16) (fun t H locs ls => ∃ fr : Nat → Int32, (∀ j, j < t → fr j = (if bitI xf j = 1 then -(vf j) else vf j)) ∧ va_P D vwCl [(r0, .inr (0, [.ref r1, .ref r2, .ref r3, .ref r4, .ref r5, .ref r6, .ref r7, .ref r8, .int ig, .int (nI n), .int ip, .int ir])), (r1, .inl (K 0, 16, .inl fr)), (r2, .inl (K 0, 16, .inl fw)), (r3, .inl (K 0, 4, .inl fb)), (r4, .inl (K 0, 4, .inl fp)), (r5, .inl (K 0, 4, .inl fm)), (r6, .inl (K 1, 4, .inl fi)), (r7, .inl (K 0, 8, .inl gb)), (r8, .inl (K 0, 8, .inl gp)), (h0, .inr (2, [.ref hv, .ref hs, .int (nI n), .int mask])), (hv, .inl (K 0, 16, .inl vf)), (hs, .inl (K 0, 4, .inl sf))] H ∧ va_D A [(r0, .inr (0, [.ref r1, .ref r2, .ref r3, .ref r4, .ref r5, .ref r6, .ref r7, .ref r8, .int ig, .int (nI n), .int ip, .int ir])), (r1, .inl (K 0, 16, .inl fr)), (r2, .inl (K 0, 16, .inl fw)), (r3, .inl (K 0, 4, .inl fb)), (r4, .inl (K 0, 4, .inl fp)), (r5, .inl (K 0, 4, .inl fm)), (r6, .inl (K 1, 4, .inl fi)), (r7, .inl (K 0, 8, .inl gb)), (r8, .inl (K 0, 8, .inl gp)), (h0, .inr (2, [.ref hv, .ref hs, .int (nI n), .int mask])), (hv, .inl (K 0, 16, .inl vf)), (hs, .inl (K 0, 4, .inl sf))] ∧ va_S A s.heap H locs ∧ lv_has ls 5 [(4, .int (nI t)), (0, .ref r0), (1, .ref h0), (2, .int xf), (3, .int (nI lim))]) 0 (Nat.zero_le _) ?_ ?_ ?_
  · intro H locs ls hI
    obtain ⟨fr, hh, hP, hD, hS, hl⟩ := hI
    refine lv_iload hx hb dX0_messageRead_11 (lv_at hl 0 rfl) ?_
    refine lv_bipush (v := 16) hx hb dX0_messageRead_13 (by decide) ?_
    refine lv_icmp_ge (tgt := 59) hx hb dX0_messageRead_15 (by decide) (fun c2 => ?_) (fun c2 => ?_)
    · skip
      have c2 : 16 ≤ 16 := (nI_leI (a := 16) (b := 16) (by omega) (by omega)).mp c2
      have hP : va_P D vwCl [(r0, .inr (0, [.ref r1, .ref r2, .ref r3, .ref r4, .ref r5, .ref r6, .ref r7, .ref r8, .int ig, .int (nI n), .int ip, .int ir])), (r1, .inl (K 0, 16, .inl fl)), (r2, .inl (K 0, 16, .inl fw)), (r3, .inl (K 0, 4, .inl fb)), (r4, .inl (K 0, 4, .inl fp)), (r5, .inl (K 0, 4, .inl fm)), (r6, .inl (K 1, 4, .inl fi)), (r7, .inl (K 0, 8, .inl gb)), (r8, .inl (K 0, 8, .inl gp)), (h0, .inr (2, [.ref hv, .ref hs, .int (nI n), .int mask])), (hv, .inl (K 0, 16, .inl vf)), (hs, .inl (K 0, 4, .inl sf))] H := gP_ext hP 1 rfl (fun j hj => (hh j hj).trans (hfl j hj).symm)
      have hD : va_D A [(r0, .inr (0, [.ref r1, .ref r2, .ref r3, .ref r4, .ref r5, .ref r6, .ref r7, .ref r8, .int ig, .int (nI n), .int ip, .int ir])), (r1, .inl (K 0, 16, .inl fl)), (r2, .inl (K 0, 16, .inl fw)), (r3, .inl (K 0, 4, .inl fb)), (r4, .inl (K 0, 4, .inl fp)), (r5, .inl (K 0, 4, .inl fm)), (r6, .inl (K 1, 4, .inl fi)), (r7, .inl (K 0, 8, .inl gb)), (r8, .inl (K 0, 8, .inl gp)), (h0, .inr (2, [.ref hv, .ref hs, .int (nI n), .int mask])), (hv, .inl (K 0, 16, .inl vf)), (hs, .inl (K 0, 4, .inl sf))] := gD_ext hD 1 rfl
      refine lv_aload_n hx hb dX0_messageRead_59 rfl (lv_at hl 1 rfl) ?_
      refine lv_iconst (v := 1) hx hb dX0_messageRead_60 (by decide) ?_
      refine va_put (D := D) (ci := 0) (v := .int 1) (ty := .int) (C := RX0) (T := TX0) (N := 12) hx hb hts hi0 tyX0 tyX0_ok nmX0 hown hK hP hD hS 0 rfl rfl 10 (by decide) (hts (.fieldLink RX0 47 "PairedChannels$Reading" "paths" "I") (List.mem_of_getElem? (i := 5) (by decide +kernel))) (fun _ h9 => h9) rfl (by decide +kernel) (rfl) (rfl) (Nat.le_of_ble_eq_true rfl) dX0_messageRead_61 (fun H locs hP hD hS => ?_)
      have hP : va_P D vwCl [(r0, .inr (0, [.ref r1, .ref r2, .ref r3, .ref r4, .ref r5, .ref r6, .ref r7, .ref r8, .int ig, .int (nI n), .int 1, .int ir])), (r1, .inl (K 0, 16, .inl fl)), (r2, .inl (K 0, 16, .inl fw)), (r3, .inl (K 0, 4, .inl fb)), (r4, .inl (K 0, 4, .inl fp)), (r5, .inl (K 0, 4, .inl fm)), (r6, .inl (K 1, 4, .inl fi)), (r7, .inl (K 0, 8, .inl gb)), (r8, .inl (K 0, 8, .inl gp)), (h0, .inr (2, [.ref hv, .ref hs, .int (nI n), .int mask])), (hv, .inl (K 0, 16, .inl vf)), (hs, .inl (K 0, 4, .inl sf))] H := hP
      have hD : va_D A [(r0, .inr (0, [.ref r1, .ref r2, .ref r3, .ref r4, .ref r5, .ref r6, .ref r7, .ref r8, .int ig, .int (nI n), .int 1, .int ir])), (r1, .inl (K 0, 16, .inl fl)), (r2, .inl (K 0, 16, .inl fw)), (r3, .inl (K 0, 4, .inl fb)), (r4, .inl (K 0, 4, .inl fp)), (r5, .inl (K 0, 4, .inl fm)), (r6, .inl (K 1, 4, .inl fi)), (r7, .inl (K 0, 8, .inl gb)), (r8, .inl (K 0, 8, .inl gp)), (h0, .inr (2, [.ref hv, .ref hs, .int (nI n), .int mask])), (hv, .inl (K 0, 16, .inl vf)), (hs, .inl (K 0, 4, .inl sf))] := hD
      refine lv_aload_n hx hb dX0_messageRead_64 rfl (lv_at hl 1 rfl) ?_
      refine va_get (D := D) (ci := 0) (v := .ref r3) (C := RX0) (T := TX0) (N := 12) hx hb hts hi0 hown hK hP 0 rfl rfl 2 (by decide) (hts (.fieldLink RX0 18 "PairedChannels$Reading" "bits" "[I") (List.mem_of_getElem? (i := 6) (by decide +kernel))) (fun _ h9 => h9) rfl dX0_messageRead_65 ?_
      refine lv_iconst (v := 0) hx hb dX0_messageRead_68 (by decide) ?_
      refine lv_iconst (v := 0) hx hb dX0_messageRead_69 (by decide) ?_
      refine wa_iast (x := 0) hx hb hK hP hD hS 3 0 rfl rfl (0) rfl (by omega) (by decide) dX0_messageRead_70 (fun H locs hP hD hS => ?_)
      have hP : va_P D vwCl [(r0, .inr (0, [.ref r1, .ref r2, .ref r3, .ref r4, .ref r5, .ref r6, .ref r7, .ref r8, .int ig, .int (nI n), .int 1, .int ir])), (r1, .inl (K 0, 16, .inl fl)), (r2, .inl (K 0, 16, .inl fw)), (r3, .inl (K 0, 4, .inl (upd fb 0 0))), (r4, .inl (K 0, 4, .inl fp)), (r5, .inl (K 0, 4, .inl fm)), (r6, .inl (K 1, 4, .inl fi)), (r7, .inl (K 0, 8, .inl gb)), (r8, .inl (K 0, 8, .inl gp)), (h0, .inr (2, [.ref hv, .ref hs, .int (nI n), .int mask])), (hv, .inl (K 0, 16, .inl vf)), (hs, .inl (K 0, 4, .inl sf))] H := hP
      have hD : va_D A [(r0, .inr (0, [.ref r1, .ref r2, .ref r3, .ref r4, .ref r5, .ref r6, .ref r7, .ref r8, .int ig, .int (nI n), .int 1, .int ir])), (r1, .inl (K 0, 16, .inl fl)), (r2, .inl (K 0, 16, .inl fw)), (r3, .inl (K 0, 4, .inl (upd fb 0 0))), (r4, .inl (K 0, 4, .inl fp)), (r5, .inl (K 0, 4, .inl fm)), (r6, .inl (K 1, 4, .inl fi)), (r7, .inl (K 0, 8, .inl gb)), (r8, .inl (K 0, 8, .inl gp)), (h0, .inr (2, [.ref hv, .ref hs, .int (nI n), .int mask])), (hv, .inl (K 0, 16, .inl vf)), (hs, .inl (K 0, 4, .inl sf))] := hD
      refine lv_aload_n hx hb dX0_messageRead_71 rfl (lv_at hl 1 rfl) ?_
      refine va_get (D := D) (ci := 0) (v := .ref r4) (C := RX0) (T := TX0) (N := 12) hx hb hts hi0 hown hK hP 0 rfl rfl 3 (by decide) (hts (.fieldLink RX0 21 "PairedChannels$Reading" "penalties" "[I") (List.mem_of_getElem? (i := 7) (by decide +kernel))) (fun _ h9 => h9) rfl dX0_messageRead_72 ?_
      refine lv_iconst (v := 0) hx hb dX0_messageRead_75 (by decide) ?_
      refine lv_iconst (v := 0) hx hb dX0_messageRead_76 (by decide) ?_
      refine wa_iast (x := 0) hx hb hK hP hD hS 4 0 rfl rfl (0) rfl (by omega) (by decide) dX0_messageRead_77 (fun H locs hP hD hS => ?_)
      have hP : va_P D vwCl [(r0, .inr (0, [.ref r1, .ref r2, .ref r3, .ref r4, .ref r5, .ref r6, .ref r7, .ref r8, .int ig, .int (nI n), .int 1, .int ir])), (r1, .inl (K 0, 16, .inl fl)), (r2, .inl (K 0, 16, .inl fw)), (r3, .inl (K 0, 4, .inl (upd fb 0 0))), (r4, .inl (K 0, 4, .inl (upd fp 0 0))), (r5, .inl (K 0, 4, .inl fm)), (r6, .inl (K 1, 4, .inl fi)), (r7, .inl (K 0, 8, .inl gb)), (r8, .inl (K 0, 8, .inl gp)), (h0, .inr (2, [.ref hv, .ref hs, .int (nI n), .int mask])), (hv, .inl (K 0, 16, .inl vf)), (hs, .inl (K 0, 4, .inl sf))] H := hP
      have hD : va_D A [(r0, .inr (0, [.ref r1, .ref r2, .ref r3, .ref r4, .ref r5, .ref r6, .ref r7, .ref r8, .int ig, .int (nI n), .int 1, .int ir])), (r1, .inl (K 0, 16, .inl fl)), (r2, .inl (K 0, 16, .inl fw)), (r3, .inl (K 0, 4, .inl (upd fb 0 0))), (r4, .inl (K 0, 4, .inl (upd fp 0 0))), (r5, .inl (K 0, 4, .inl fm)), (r6, .inl (K 1, 4, .inl fi)), (r7, .inl (K 0, 8, .inl gb)), (r8, .inl (K 0, 8, .inl gp)), (h0, .inr (2, [.ref hv, .ref hs, .int (nI n), .int mask])), (hv, .inl (K 0, 16, .inl vf)), (hs, .inl (K 0, 4, .inl sf))] := hD
      refine lv_iconst (v := 0) hx hb dX0_messageRead_78 (by decide) ?_
      refine lv_istore (lv' := [(4, .int 0), (0, .ref r0), (1, .ref h0), (2, .int xf), (3, .int (nI lim))]) hx hb dX0_messageRead_79 hl (by decide) rfl (fun ls hl => ?_)
      have e3 : 1 = (nI ((pthL n mask fl lim 0).length)) := rfl
      rw [e3] at hP hD
      have hP : va_P D vwCl [(r0, .inr (0, [.ref r1, .ref r2, .ref r3, .ref r4, .ref r5, .ref r6, .ref r7, .ref r8, .int ig, .int (nI n), .int (nI ((pthL n mask fl lim 0).length)), .int ir])), (r1, .inl (K 0, 16, .inl fl)), (r2, .inl (K 0, 16, .inl fw)), (r3, .inl (K 0, 4, .inl (upd fb 0 0))), (r4, .inl (K 0, 4, .inl (upd fp 0 0))), (r5, .inl (K 0, 4, .inl fm)), (r6, .inl (K 1, 4, .inl fi)), (r7, .inl (K 0, 8, .inl gb)), (r8, .inl (K 0, 8, .inl gp)), (h0, .inr (2, [.ref hv, .ref hs, .int (nI n), .int mask])), (hv, .inl (K 0, 16, .inl vf)), (hs, .inl (K 0, 4, .inl sf))] H := hP
      have hD : va_D A [(r0, .inr (0, [.ref r1, .ref r2, .ref r3, .ref r4, .ref r5, .ref r6, .ref r7, .ref r8, .int ig, .int (nI n), .int (nI ((pthL n mask fl lim 0).length)), .int ir])), (r1, .inl (K 0, 16, .inl fl)), (r2, .inl (K 0, 16, .inl fw)), (r3, .inl (K 0, 4, .inl (upd fb 0 0))), (r4, .inl (K 0, 4, .inl (upd fp 0 0))), (r5, .inl (K 0, 4, .inl fm)), (r6, .inl (K 1, 4, .inl fi)), (r7, .inl (K 0, 8, .inl gb)), (r8, .inl (K 0, 8, .inl gp)), (h0, .inr (2, [.ref hv, .ref hs, .int (nI n), .int mask])), (hv, .inl (K 0, 16, .inl vf)), (hs, .inl (K 0, 4, .inl sf))] := hD
      refine g_loopW (st := []) (N := n) (fun i H locs ls => ∃ ig : Int32, ∃ fw : Nat → Int32, ∃ fb : Nat → Int32, ∃ fp : Nat → Int32, ∃ gb : Nat → Int32, ∃ gp : Nat → Int32, (hol (pthL n mask fl lim i) fb fp) ∧ va_P D vwCl [(r0, .inr (0, [.ref r1, .ref r2, .ref r3, .ref r4, .ref r5, .ref r6, .ref r7, .ref r8, .int ig, .int (nI n), .int (nI ((pthL n mask fl lim i).length)), .int ir])), (r1, .inl (K 0, 16, .inl fl)), (r2, .inl (K 0, 16, .inl fw)), (r3, .inl (K 0, 4, .inl fb)), (r4, .inl (K 0, 4, .inl fp)), (r5, .inl (K 0, 4, .inl fm)), (r6, .inl (K 1, 4, .inl fi)), (r7, .inl (K 0, 8, .inl gb)), (r8, .inl (K 0, 8, .inl gp)), (h0, .inr (2, [.ref hv, .ref hs, .int (nI n), .int mask])), (hv, .inl (K 0, 16, .inl vf)), (hs, .inl (K 0, 4, .inl sf))] H ∧ va_D A [(r0, .inr (0, [.ref r1, .ref r2, .ref r3, .ref r4, .ref r5, .ref r6, .ref r7, .ref r8, .int ig, .int (nI n), .int (nI ((pthL n mask fl lim i).length)), .int ir])), (r1, .inl (K 0, 16, .inl fl)), (r2, .inl (K 0, 16, .inl fw)), (r3, .inl (K 0, 4, .inl fb)), (r4, .inl (K 0, 4, .inl fp)), (r5, .inl (K 0, 4, .inl fm)), (r6, .inl (K 1, 4, .inl fi)), (r7, .inl (K 0, 8, .inl gb)), (r8, .inl (K 0, 8, .inl gp)), (h0, .inr (2, [.ref hv, .ref hs, .int (nI n), .int mask])), (hv, .inl (K 0, 16, .inl vf)), (hs, .inl (K 0, 4, .inl sf))] ∧ va_S A s.heap H locs ∧ lv_has ls 5 [(4, .int (nI i)), (0, .ref r0), (1, .ref h0), (2, .int xf), (3, .int (nI lim))]) 0 (Nat.zero_le _) ?_ ?_ ?_
      · intro H locs ls hI
        obtain ⟨ig, fw, fb, fp, gb, gp, hp0, hP, hD, hS, hl⟩ := hI
        refine lv_iload hx hb dX0_messageRead_81 (lv_at hl 0 rfl) ?_
        refine lv_aload_n hx hb dX0_messageRead_83 rfl (lv_at hl 1 rfl) ?_
        refine va_get (D := D) (ci := 0) (v := .int (nI n)) (C := RX0) (T := TX0) (N := 12) hx hb hts hi0 hown hK hP 0 rfl rfl 9 (by decide) (hts (.fieldLink RX0 43 "PairedChannels$Reading" "places" "I") (List.mem_of_getElem? (i := 2) (by decide +kernel))) (fun _ h9 => h9) rfl dX0_messageRead_84 ?_
        refine lv_icmp_ge (tgt := 113) hx hb dX0_messageRead_87 (by decide) (fun c5 => ?_) (fun c5 => ?_)
        · skip
          have c5 : n ≤ n := (nI_leI (a := n) (b := n) (by omega) (by omega)).mp c5
          have hpn := pth_len (n := n) (mask := mask) (vf := fl) hl1 n
          refine lv_aload_n hx hb dX0_messageRead_113 rfl (lv_at hl 1 rfl) ?_
          refine gW_v (wr := [(r1, .inl (K 0, 16, .inl fl)), (r2, .inl (K 0, 16, .inl fw)), (r5, .inl (K 0, 4, .inl fm)), (r6, .inl (K 1, 4, .inl fi)), (h0, .inr (2, [.ref hv, .ref hs, .int (nI n), .int mask])), (hv, .inl (K 0, 16, .inl vf)), (hs, .inl (K 0, 4, .inl sf))]) (W2 := (fun (u : (Nat → Int32) × (Nat → Int32) × (Nat → Int32) × (Nat → Int32)) => [(r0, .inr (0, [.ref r1, .ref r2, .ref r3, .ref r4, .ref r5, .ref r6, .ref r7, .ref r8, .int (nI (pthL n mask fl lim n).length), .int (nI n), .int (nI (pthL n mask fl lim n).length), .int ir])), (r1, .inl (K 0, 16, .inl fl)), (r2, .inl (K 0, 16, .inl fw)), (r3, .inl (K 0, 4, .inl u.1)), (r4, .inl (K 0, 4, .inl u.2.1)), (r5, .inl (K 0, 4, .inl fm)), (r6, .inl (K 1, 4, .inl fi)), (r7, .inl (K 0, 8, .inl u.2.2.1)), (r8, .inl (K 0, 8, .inl u.2.2.2)), (h0, .inr (2, [.ref hv, .ref hs, .int (nI n), .int mask])), (hv, .inl (K 0, 16, .inl vf)), (hs, .inl (K 0, 4, .inl sf))])) (va_runV (As := []) (rest := []) ⟨hx, hb, hml, hown, hts⟩ ((c_X0_orderByPenalties l D K r0 r1 r2 r3 r4 r5 r6 r7 r8 n ig ir (pthL n mask fl lim n) fb fp gb gp (hp0) (by omega) (okP_100 hn hvl mask lim n hn.le.2)) H.size) (cwV 0 hts gX0_messageRead_X0_orderByPenalties rfl rfl rfl (by decide +kernel) ⟨Nat.le_of_ble_eq_true rfl, Nat.le_of_ble_eq_true rfl⟩) (gW_preV hE hS hK hP hD hA [0, 3, 4, 7, 8] rfl (by decide) 0 rfl rfl rfl) rfl rfl hl.1 rfl (lv_room (Nat.le_of_ble_eq_true rfl)) dX0_messageRead_114 ⟨Nat.le_of_ble_eq_true rfl, Nat.le_of_ble_eq_true rfl⟩) hS hP hD hA [0, 3, 4, 7, 8] [1, 2, 5, 6, 9, 10, 11] [7, 0, 1, 8, 9, 2, 3, 10, 11, 4, 5, 6] rfl rfl (by decide) (by decide) (by decide) (fun _ => rfl) (fun u6 H locs h7 hP hD hS => ?_)
          have hP : va_P D vwCl [(r0, .inr (0, [.ref r1, .ref r2, .ref r3, .ref r4, .ref r5, .ref r6, .ref r7, .ref r8, .int (nI (pthL n mask fl lim n).length), .int (nI n), .int (nI (pthL n mask fl lim n).length), .int ir])), (r1, .inl (K 0, 16, .inl fl)), (r2, .inl (K 0, 16, .inl fw)), (r3, .inl (K 0, 4, .inl u6.1)), (r4, .inl (K 0, 4, .inl u6.2.1)), (r5, .inl (K 0, 4, .inl fm)), (r6, .inl (K 1, 4, .inl fi)), (r7, .inl (K 0, 8, .inl u6.2.2.1)), (r8, .inl (K 0, 8, .inl u6.2.2.2)), (h0, .inr (2, [.ref hv, .ref hs, .int (nI n), .int mask])), (hv, .inl (K 0, 16, .inl vf)), (hs, .inl (K 0, 4, .inl sf))] H := hP
          have hD : va_D A [(r0, .inr (0, [.ref r1, .ref r2, .ref r3, .ref r4, .ref r5, .ref r6, .ref r7, .ref r8, .int (nI (pthL n mask fl lim n).length), .int (nI n), .int (nI (pthL n mask fl lim n).length), .int ir])), (r1, .inl (K 0, 16, .inl fl)), (r2, .inl (K 0, 16, .inl fw)), (r3, .inl (K 0, 4, .inl u6.1)), (r4, .inl (K 0, 4, .inl u6.2.1)), (r5, .inl (K 0, 4, .inl fm)), (r6, .inl (K 1, 4, .inl fi)), (r7, .inl (K 0, 8, .inl u6.2.2.1)), (r8, .inl (K 0, 8, .inl u6.2.2.2)), (h0, .inr (2, [.ref hv, .ref hs, .int (nI n), .int mask])), (hv, .inl (K 0, 16, .inl vf)), (hs, .inl (K 0, 4, .inl sf))] := hD
          have hod : hol (ordL (pthL n mask fl lim n)) u6.1 u6.2.1 := h7
          have e9 : (nI (pthL n mask fl lim n).length) = (nI ((rdL n mask fl lim).length)) := congrArg nI (ordL_len _).symm
          rw [e9] at hP hD
          have hP : va_P D vwCl [(r0, .inr (0, [.ref r1, .ref r2, .ref r3, .ref r4, .ref r5, .ref r6, .ref r7, .ref r8, .int (nI (pthL n mask fl lim n).length), .int (nI n), .int (nI ((rdL n mask fl lim).length)), .int ir])), (r1, .inl (K 0, 16, .inl fl)), (r2, .inl (K 0, 16, .inl fw)), (r3, .inl (K 0, 4, .inl u6.1)), (r4, .inl (K 0, 4, .inl u6.2.1)), (r5, .inl (K 0, 4, .inl fm)), (r6, .inl (K 1, 4, .inl fi)), (r7, .inl (K 0, 8, .inl u6.2.2.1)), (r8, .inl (K 0, 8, .inl u6.2.2.2)), (h0, .inr (2, [.ref hv, .ref hs, .int (nI n), .int mask])), (hv, .inl (K 0, 16, .inl vf)), (hs, .inl (K 0, 4, .inl sf))] H := hP
          have hD : va_D A [(r0, .inr (0, [.ref r1, .ref r2, .ref r3, .ref r4, .ref r5, .ref r6, .ref r7, .ref r8, .int (nI (pthL n mask fl lim n).length), .int (nI n), .int (nI ((rdL n mask fl lim).length)), .int ir])), (r1, .inl (K 0, 16, .inl fl)), (r2, .inl (K 0, 16, .inl fw)), (r3, .inl (K 0, 4, .inl u6.1)), (r4, .inl (K 0, 4, .inl u6.2.1)), (r5, .inl (K 0, 4, .inl fm)), (r6, .inl (K 1, 4, .inl fi)), (r7, .inl (K 0, 8, .inl u6.2.2.1)), (r8, .inl (K 0, 8, .inl u6.2.2.2)), (h0, .inr (2, [.ref hv, .ref hs, .int (nI n), .int mask])), (hv, .inl (K 0, 16, .inl vf)), (hs, .inl (K 0, 4, .inl sf))] := hD
          refine lv_aload_n hx hb dX0_messageRead_117 rfl (lv_at hl 1 rfl) ?_
          refine lv_aload_n hx hb dX0_messageRead_118 rfl (lv_at hl 2 rfl) ?_
          refine gW_v (wr := [(r1, .inl (K 0, 16, .inl fl)), (r2, .inl (K 0, 16, .inl fw)), (r4, .inl (K 0, 4, .inl u6.2.1)), (r7, .inl (K 0, 8, .inl u6.2.2.1)), (r8, .inl (K 0, 8, .inl u6.2.2.2)), (hv, .inl (K 0, 16, .inl vf))]) (W2 := (fun (u : (Nat → Int32) × (Nat → Int32)) => [(r0, .inr (0, [.ref r1, .ref r2, .ref r3, .ref r4, .ref r5, .ref r6, .ref r7, .ref r8, .int (nI (pthL n mask fl lim n).length), .int (nI n), .int (nI (rdL n mask fl lim).length), .int (rrk n mask sf (rdL n mask fl lim) (rdL n mask fl lim).length)])), (r1, .inl (K 0, 16, .inl fl)), (r2, .inl (K 0, 16, .inl fw)), (r3, .inl (K 0, 4, .inl u6.1)), (r4, .inl (K 0, 4, .inl u6.2.1)), (r5, .inl (K 0, 4, .inl u.1)), (r6, .inl (K 1, 4, .inl u.2)), (r7, .inl (K 0, 8, .inl u6.2.2.1)), (r8, .inl (K 0, 8, .inl u6.2.2.2)), (h0, .inr (2, [.ref hv, .ref hs, .int (nI n), .int mask])), (hv, .inl (K 0, 16, .inl vf)), (hs, .inl (K 0, 4, .inl sf))])) (va_runV (As := [.ref h0]) (rest := []) ⟨hx, hb, hml, hown, hts⟩ ((c_X0_judge l D K r0 r1 r2 r3 r4 r5 r6 r7 r8 n (nI (pthL n mask fl lim n).length) ir h0 hv hs mask sf (rdL n mask fl lim) u6.1 fm fi (by first | assumption | omega) (by first | assumption | omega) (by first | assumption | omega) (by omega) (fun i hi => (hod i hi).1)) H.size) (cwV 1 hts gX0_messageRead_X0_judge rfl rfl rfl (by decide +kernel) ⟨Nat.le_of_ble_eq_true rfl, Nat.le_of_ble_eq_true rfl⟩) (gW_preV hE hS hK hP hD hA [0, 3, 5, 6, 9, 11] rfl (by decide) 0 rfl rfl rfl) rfl rfl hl.1 rfl (lv_room (Nat.le_of_ble_eq_true rfl)) dX0_messageRead_119 ⟨Nat.le_of_ble_eq_true rfl, Nat.le_of_ble_eq_true rfl⟩) hS hP hD hA [0, 3, 5, 6, 9, 11] [1, 2, 4, 7, 8, 10] [6, 0, 1, 7, 2, 8, 9, 3, 4, 10, 5, 11] rfl rfl (by decide) (by decide) (by decide) (fun _ => rfl) (fun u10 H locs h11 hP hD hS => ?_)
          have hP : va_P D vwCl [(r0, .inr (0, [.ref r1, .ref r2, .ref r3, .ref r4, .ref r5, .ref r6, .ref r7, .ref r8, .int (nI (pthL n mask fl lim n).length), .int (nI n), .int (nI (rdL n mask fl lim).length), .int (rrk n mask sf (rdL n mask fl lim) (rdL n mask fl lim).length)])), (r1, .inl (K 0, 16, .inl fl)), (r2, .inl (K 0, 16, .inl fw)), (r3, .inl (K 0, 4, .inl u6.1)), (r4, .inl (K 0, 4, .inl u6.2.1)), (r5, .inl (K 0, 4, .inl u10.1)), (r6, .inl (K 1, 4, .inl u10.2)), (r7, .inl (K 0, 8, .inl u6.2.2.1)), (r8, .inl (K 0, 8, .inl u6.2.2.2)), (h0, .inr (2, [.ref hv, .ref hs, .int (nI n), .int mask])), (hv, .inl (K 0, 16, .inl vf)), (hs, .inl (K 0, 4, .inl sf))] H := hP
          have hD : va_D A [(r0, .inr (0, [.ref r1, .ref r2, .ref r3, .ref r4, .ref r5, .ref r6, .ref r7, .ref r8, .int (nI (pthL n mask fl lim n).length), .int (nI n), .int (nI (rdL n mask fl lim).length), .int (rrk n mask sf (rdL n mask fl lim) (rdL n mask fl lim).length)])), (r1, .inl (K 0, 16, .inl fl)), (r2, .inl (K 0, 16, .inl fw)), (r3, .inl (K 0, 4, .inl u6.1)), (r4, .inl (K 0, 4, .inl u6.2.1)), (r5, .inl (K 0, 4, .inl u10.1)), (r6, .inl (K 1, 4, .inl u10.2)), (r7, .inl (K 0, 8, .inl u6.2.2.1)), (r8, .inl (K 0, 8, .inl u6.2.2.2)), (h0, .inr (2, [.ref hv, .ref hs, .int (nI n), .int mask])), (hv, .inl (K 0, 16, .inl vf)), (hs, .inl (K 0, 4, .inl sf))] := hD
          have hju : ∀ i, i < (rdL n mask fl lim).length → u10.1 i = msP n mask (rdL n mask fl lim) i ∧ u10.2 i = (if rgt n mask sf (msP n mask (rdL n mask fl lim) i) then 1 else 0) := h11
          refine lv_aload_n hx hb dX0_messageRead_122 rfl (lv_at hl 1 rfl) ?_
          refine va_get (D := D) (ci := 0) (v := .int (rrk n mask sf (rdL n mask fl lim) (rdL n mask fl lim).length)) (C := RX0) (T := TX0) (N := 12) hx hb hts hi0 hown hK hP 0 rfl rfl 11 (by decide) (hts (.fieldLink RX0 69 "PairedChannels$Reading" "rankRead" "I") (List.mem_of_getElem? (i := 8) (by decide +kernel))) (fun _ h9 => h9) rfl dX0_messageRead_123 ?_
          by_cases hrr : fstX n mask sf (rdL n mask fl lim) (rdL n mask fl lim).length < (rdL n mask fl lim).length
          · skip
            rw [rrk_p hrr] at hP hD
            rw [rrk_p hrr]
            refine lv_if_lt (tgt := 149) hx hb dX0_messageRead_126 (by decide) (fun c126 => ?_) (fun c126 => ?_)
            · skip
              have c126 : fstX n mask sf (rdL n mask fl lim) (rdL n mask fl lim).length < 0 := (nI_ltI (a := fstX n mask sf (rdL n mask fl lim) (rdL n mask fl lim).length) (b := 0) (by omega) (by omega)).mp c126
              exact absurd c126 (by omega)
            · skip
              have c126 : ¬ fstX n mask sf (rdL n mask fl lim) (rdL n mask fl lim).length < 0 := fun h9 => c126 ((nI_ltI (a := fstX n mask sf (rdL n mask fl lim) (rdL n mask fl lim).length) (b := 0) (by omega) (by omega)).mpr h9)
              refine lv_aload_n hx hb dX0_messageRead_129 rfl (lv_at hl 1 rfl) ?_
              refine va_get (D := D) (ci := 0) (v := .int (nI (fstX n mask sf (rdL n mask fl lim) (rdL n mask fl lim).length))) (C := RX0) (T := TX0) (N := 12) hx hb hts hi0 hown hK hP 0 rfl rfl 11 (by decide) (hts (.fieldLink RX0 69 "PairedChannels$Reading" "rankRead" "I") (List.mem_of_getElem? (i := 8) (by decide +kernel))) (fun _ h9 => h9) rfl dX0_messageRead_130 ?_
              refine lv_iconst (v := 4) hx hb dX0_messageRead_133 (by decide) ?_
              refine lv_icmp_ge (tgt := 149) hx hb dX0_messageRead_134 (by decide) (fun c134 => ?_) (fun c134 => ?_)
              · skip
                have c134 : 4 ≤ fstX n mask sf (rdL n mask fl lim) (rdL n mask fl lim).length := (nI_leI (a := 4) (b := fstX n mask sf (rdL n mask fl lim) (rdL n mask fl lim).length) (by omega) (by omega)).mp c134
                omega
              · skip
                have c134 : ¬ 4 ≤ fstX n mask sf (rdL n mask fl lim) (rdL n mask fl lim).length := fun h9 => c134 ((nI_leI (a := 4) (b := fstX n mask sf (rdL n mask fl lim) (rdL n mask fl lim).length) (by omega) (by omega)).mpr h9)
                refine lv_aload_n hx hb dX0_messageRead_137 rfl (lv_at hl 1 rfl) ?_
                refine va_get (D := D) (ci := 0) (v := .ref r5) (C := RX0) (T := TX0) (N := 12) hx hb hts hi0 hown hK hP 0 rfl rfl 4 (by decide) (hts (.fieldLink RX0 24 "PairedChannels$Reading" "messages" "[I") (List.mem_of_getElem? (i := 9) (by decide +kernel))) (fun _ h9 => h9) rfl dX0_messageRead_138 ?_
                refine lv_aload_n hx hb dX0_messageRead_141 rfl (lv_at hl 1 rfl) ?_
                refine va_get (D := D) (ci := 0) (v := .int (nI (fstX n mask sf (rdL n mask fl lim) (rdL n mask fl lim).length))) (C := RX0) (T := TX0) (N := 12) hx hb hts hi0 hown hK hP 0 rfl rfl 11 (by decide) (hts (.fieldLink RX0 69 "PairedChannels$Reading" "rankRead" "I") (List.mem_of_getElem? (i := 8) (by decide +kernel))) (fun _ h9 => h9) rfl dX0_messageRead_142 ?_
                refine wa_iald hx hb hK hP 5 0 rfl rfl (fstX n mask sf (rdL n mask fl lim) (rdL n mask fl lim).length) rfl (by omega) (by decide) dX0_messageRead_145 ?_
                refine lv_goto (tgt := 150) hx hb dX0_messageRead_146 (by decide) ?_
                exact gW_iret (v := u10.1 (fstX n mask sf (rdL n mask fl lim) (rdL n mask fl lim).length)) ((nI (pthL n mask fl lim n).length), fw, u6.1, u6.2.1, u10.1, u10.2, u6.2.2.1, u6.2.2.2) hx hb hr hlk (rfl) hK hP hD hS (⟨by unfold rdM; first | (rw [if_pos hrr]; exact (hju _ hrr).1) | rw [if_neg hrr], hod, hju⟩) dX0_messageRead_150
          · skip
            rw [rrk_n hrr] at hP hD
            rw [rrk_n hrr]
            refine lv_if_lt (tgt := 149) hx hb dX0_messageRead_126 (by decide) (fun c126 => ?_) (fun c126 => ?_)
            · skip
              refine lv_iconst (v := (-1)) hx hb dX0_messageRead_149 (by decide) ?_
              exact gW_iret (v := (-1)) ((nI (pthL n mask fl lim n).length), fw, u6.1, u6.2.1, u10.1, u10.2, u6.2.2.1, u6.2.2.2) hx hb hr hlk (rfl) hK hP hD hS (⟨by unfold rdM; first | (rw [if_pos hrr]; exact (hju _ hrr).1) | rw [if_neg hrr], hod, hju⟩) dX0_messageRead_150
            · skip
              exact absurd (by decide) c126
        · skip
          have c5 : ¬ n ≤ n := fun h9 => c5 ((nI_leI (a := n) (b := n) (by omega) (by omega)).mpr h9)
          omega
      · intro i hi ih4 H locs ls hI
        obtain ⟨ig, fw, fb, fp, gb, gp, hp0, hP, hD, hS, hl⟩ := hI
        have hpl := pth_len (n := n) (mask := mask) (vf := fl) hl1 i
        have hgl := grT_le (hea n fl i) i (decide (opn mask i)) (pthL n mask fl lim i) (pthL n mask fl lim i).length
        refine lv_iload hx hb dX0_messageRead_81 (lv_at hl 0 rfl) ?_
        refine lv_aload_n hx hb dX0_messageRead_83 rfl (lv_at hl 1 rfl) ?_
        refine va_get (D := D) (ci := 0) (v := .int (nI n)) (C := RX0) (T := TX0) (N := 12) hx hb hts hi0 hown hK hP 0 rfl rfl 9 (by decide) (hts (.fieldLink RX0 43 "PairedChannels$Reading" "places" "I") (List.mem_of_getElem? (i := 2) (by decide +kernel))) (fun _ h9 => h9) rfl dX0_messageRead_84 ?_
        refine lv_icmp_ge (tgt := 113) hx hb dX0_messageRead_87 (by decide) (fun c16 => ?_) (fun c16 => ?_)
        · skip
          have c16 : n ≤ i := (nI_leI (a := n) (b := i) (by omega) (by omega)).mp c16
          omega
        · skip
          have c16 : ¬ n ≤ i := fun h9 => c16 ((nI_leI (a := n) (b := i) (by omega) (by omega)).mpr h9)
          refine lv_aload_n hx hb dX0_messageRead_90 rfl (lv_at hl 1 rfl) ?_
          refine lv_iload hx hb dX0_messageRead_91 (lv_at hl 0 rfl) ?_
          refine lv_aload_n hx hb dX0_messageRead_93 rfl (lv_at hl 2 rfl) ?_
          refine lv_iload hx hb dX0_messageRead_94 (lv_at hl 0 rfl) ?_
          refine gR_i (va_runV (As := [.int (nI i)]) (rest := [.int (nI i), .ref r0]) ⟨hx, hb, hml, hown, hts⟩ (c_X2_isOpen l D K h0 hv hs n mask i ) (cwV 1 hts gX0_messageRead_X2_isOpen rfl rfl rfl (by decide +kernel) ⟨Nat.le_of_ble_eq_true rfl, Nat.le_of_ble_eq_true rfl⟩) (gR_preV hE hS hK hP [9] rfl 9 rfl rfl rfl) rfl rfl hl.1 rfl (lv_room (Nat.le_of_ble_eq_true rfl)) dX0_messageRead_96 ⟨Nat.le_of_ble_eq_true rfl, Nat.le_of_ble_eq_true rfl⟩) hS hP (fun rv18 H locs h17 hP hS => ?_)
          have h17 : rv18 = (if opn mask i then 1 else 0) := h17
          subst h17
          refine lv_eqi ((if decide (opn mask i) = true then 1 else 0)) (b_dec _) ?_
          refine gW_v (wr := [(r5, .inl (K 0, 4, .inl fm)), (r6, .inl (K 1, 4, .inl fi)), (h0, .inr (2, [.ref hv, .ref hs, .int (nI n), .int mask])), (hv, .inl (K 0, 16, .inl vf)), (hs, .inl (K 0, 4, .inl sf))]) (W2 := (fun (u : (Nat → Int32) × (Nat → Int32) × (Nat → Int32)) => [(r0, .inr (0, [.ref r1, .ref r2, .ref r3, .ref r4, .ref r5, .ref r6, .ref r7, .ref r8, .int (nI ((grw (hea n fl i) i (decide (opn mask i)) (pthL n mask fl lim i)).length)), .int (nI n), .int (nI (pthL n mask fl lim i).length), .int ir])), (r1, .inl (K 0, 16, .inl fl)), (r2, .inl (K 0, 16, .inl u.1)), (r3, .inl (K 0, 4, .inl fb)), (r4, .inl (K 0, 4, .inl fp)), (r5, .inl (K 0, 4, .inl fm)), (r6, .inl (K 1, 4, .inl fi)), (r7, .inl (K 0, 8, .inl u.2.1)), (r8, .inl (K 0, 8, .inl u.2.2)), (h0, .inr (2, [.ref hv, .ref hs, .int (nI n), .int mask])), (hv, .inl (K 0, 16, .inl vf)), (hs, .inl (K 0, 4, .inl sf))])) (va_runV (As := [.int (nI i), .int (if decide (opn mask i) = true then 1 else 0)]) (rest := []) ⟨hx, hb, hml, hown, hts⟩ ((c_X0_growPaths l D K r0 r1 r2 r3 r4 r5 r6 r7 r8 n ig ir (pthL n mask fl lim i) i (decide (opn mask i)) fl fw fb fp gb gp (by first | assumption | omega) (hi) (by omega) (hp0)) H.size) (cwV 2 hts gX0_messageRead_X0_growPaths rfl rfl rfl (by decide +kernel) ⟨Nat.le_of_ble_eq_true rfl, Nat.le_of_ble_eq_true rfl⟩) (gW_preV hE hS hK hP hD hA [0, 1, 2, 3, 4, 7, 8] rfl (by decide) 0 rfl rfl rfl) rfl rfl hl.1 rfl (lv_room (Nat.le_of_ble_eq_true rfl)) dX0_messageRead_99 ⟨Nat.le_of_ble_eq_true rfl, Nat.le_of_ble_eq_true rfl⟩) hS hP hD hA [0, 1, 2, 3, 4, 7, 8] [5, 6, 9, 10, 11] [5, 6, 7, 8, 9, 0, 1, 10, 11, 2, 3, 4] rfl rfl (by decide) (by decide) (by decide) (fun _ => rfl) (fun u19 H locs h20 hP hD hS => ?_)
          have hP : va_P D vwCl [(r0, .inr (0, [.ref r1, .ref r2, .ref r3, .ref r4, .ref r5, .ref r6, .ref r7, .ref r8, .int (nI ((grw (hea n fl i) i (decide (opn mask i)) (pthL n mask fl lim i)).length)), .int (nI n), .int (nI (pthL n mask fl lim i).length), .int ir])), (r1, .inl (K 0, 16, .inl fl)), (r2, .inl (K 0, 16, .inl u19.1)), (r3, .inl (K 0, 4, .inl fb)), (r4, .inl (K 0, 4, .inl fp)), (r5, .inl (K 0, 4, .inl fm)), (r6, .inl (K 1, 4, .inl fi)), (r7, .inl (K 0, 8, .inl u19.2.1)), (r8, .inl (K 0, 8, .inl u19.2.2)), (h0, .inr (2, [.ref hv, .ref hs, .int (nI n), .int mask])), (hv, .inl (K 0, 16, .inl vf)), (hs, .inl (K 0, 4, .inl sf))] H := hP
          have hD : va_D A [(r0, .inr (0, [.ref r1, .ref r2, .ref r3, .ref r4, .ref r5, .ref r6, .ref r7, .ref r8, .int (nI ((grw (hea n fl i) i (decide (opn mask i)) (pthL n mask fl lim i)).length)), .int (nI n), .int (nI (pthL n mask fl lim i).length), .int ir])), (r1, .inl (K 0, 16, .inl fl)), (r2, .inl (K 0, 16, .inl u19.1)), (r3, .inl (K 0, 4, .inl fb)), (r4, .inl (K 0, 4, .inl fp)), (r5, .inl (K 0, 4, .inl fm)), (r6, .inl (K 1, 4, .inl fi)), (r7, .inl (K 0, 8, .inl u19.2.1)), (r8, .inl (K 0, 8, .inl u19.2.2)), (h0, .inr (2, [.ref hv, .ref hs, .int (nI n), .int mask])), (hv, .inl (K 0, 16, .inl vf)), (hs, .inl (K 0, 4, .inl sf))] := hD
          have hgr : hol (grw (hea n fl i) i (decide (opn mask i)) (pthL n mask fl lim i)) u19.2.1 u19.2.2 := h20
          refine lv_aload_n hx hb dX0_messageRead_102 rfl (lv_at hl 1 rfl) ?_
          refine lv_iload_n hx hb dX0_messageRead_103 rfl (lv_at hl 4 rfl) ?_
          refine gW_v (wr := [(r1, .inl (K 0, 16, .inl fl)), (r2, .inl (K 0, 16, .inl u19.1)), (r5, .inl (K 0, 4, .inl fm)), (r6, .inl (K 1, 4, .inl fi)), (h0, .inr (2, [.ref hv, .ref hs, .int (nI n), .int mask])), (hv, .inl (K 0, 16, .inl vf)), (hs, .inl (K 0, 4, .inl sf))]) (W2 := (fun (u : (Nat → Int32) × (Nat → Int32)) => [(r0, .inr (0, [.ref r1, .ref r2, .ref r3, .ref r4, .ref r5, .ref r6, .ref r7, .ref r8, .int (nI (grw (hea n fl i) i (decide (opn mask i)) (pthL n mask fl lim i)).length), .int (nI n), .int (nI ((keepL lim (grw (hea n fl i) i (decide (opn mask i)) (pthL n mask fl lim i))).length)), .int ir])), (r1, .inl (K 0, 16, .inl fl)), (r2, .inl (K 0, 16, .inl u19.1)), (r3, .inl (K 0, 4, .inl u.1)), (r4, .inl (K 0, 4, .inl u.2)), (r5, .inl (K 0, 4, .inl fm)), (r6, .inl (K 1, 4, .inl fi)), (r7, .inl (K 0, 8, .inl u19.2.1)), (r8, .inl (K 0, 8, .inl u19.2.2)), (h0, .inr (2, [.ref hv, .ref hs, .int (nI n), .int mask])), (hv, .inl (K 0, 16, .inl vf)), (hs, .inl (K 0, 4, .inl sf))])) (va_runV (As := [.int (nI lim)]) (rest := []) ⟨hx, hb, hml, hown, hts⟩ ((c_X0_keepLeast l D K r0 r1 r2 r3 r4 r5 r6 r7 r8 n (nI (pthL n mask fl lim i).length) ir (grw (hea n fl i) i (decide (opn mask i)) (pthL n mask fl lim i)) lim fb fp u19.2.1 u19.2.2 (hgr) (by show (grT _ _ _ _ _).length ≤ 8; omega) (by first | assumption | omega) (okP_g hn hvl mask lim (by omega))) H.size) (cwV 1 hts gX0_messageRead_X0_keepLeast rfl rfl rfl (by decide +kernel) ⟨Nat.le_of_ble_eq_true rfl, Nat.le_of_ble_eq_true rfl⟩) (gW_preV hE hS hK hP hD hA [0, 3, 4, 7, 8] rfl (by decide) 0 rfl rfl rfl) rfl rfl hl.1 rfl (lv_room (Nat.le_of_ble_eq_true rfl)) dX0_messageRead_104 ⟨Nat.le_of_ble_eq_true rfl, Nat.le_of_ble_eq_true rfl⟩) hS hP hD hA [0, 3, 4, 7, 8] [1, 2, 5, 6, 9, 10, 11] [7, 0, 1, 8, 9, 2, 3, 10, 11, 4, 5, 6] rfl rfl (by decide) (by decide) (by decide) (fun _ => rfl) (fun u22 H locs h23 hP hD hS => ?_)
          have hP : va_P D vwCl [(r0, .inr (0, [.ref r1, .ref r2, .ref r3, .ref r4, .ref r5, .ref r6, .ref r7, .ref r8, .int (nI (grw (hea n fl i) i (decide (opn mask i)) (pthL n mask fl lim i)).length), .int (nI n), .int (nI ((keepL lim (grw (hea n fl i) i (decide (opn mask i)) (pthL n mask fl lim i))).length)), .int ir])), (r1, .inl (K 0, 16, .inl fl)), (r2, .inl (K 0, 16, .inl u19.1)), (r3, .inl (K 0, 4, .inl u22.1)), (r4, .inl (K 0, 4, .inl u22.2)), (r5, .inl (K 0, 4, .inl fm)), (r6, .inl (K 1, 4, .inl fi)), (r7, .inl (K 0, 8, .inl u19.2.1)), (r8, .inl (K 0, 8, .inl u19.2.2)), (h0, .inr (2, [.ref hv, .ref hs, .int (nI n), .int mask])), (hv, .inl (K 0, 16, .inl vf)), (hs, .inl (K 0, 4, .inl sf))] H := hP
          have hD : va_D A [(r0, .inr (0, [.ref r1, .ref r2, .ref r3, .ref r4, .ref r5, .ref r6, .ref r7, .ref r8, .int (nI (grw (hea n fl i) i (decide (opn mask i)) (pthL n mask fl lim i)).length), .int (nI n), .int (nI ((keepL lim (grw (hea n fl i) i (decide (opn mask i)) (pthL n mask fl lim i))).length)), .int ir])), (r1, .inl (K 0, 16, .inl fl)), (r2, .inl (K 0, 16, .inl u19.1)), (r3, .inl (K 0, 4, .inl u22.1)), (r4, .inl (K 0, 4, .inl u22.2)), (r5, .inl (K 0, 4, .inl fm)), (r6, .inl (K 1, 4, .inl fi)), (r7, .inl (K 0, 8, .inl u19.2.1)), (r8, .inl (K 0, 8, .inl u19.2.2)), (h0, .inr (2, [.ref hv, .ref hs, .int (nI n), .int mask])), (hv, .inl (K 0, 16, .inl vf)), (hs, .inl (K 0, 4, .inl sf))] := hD
          have hkp : hol (keepL lim (grw (hea n fl i) i (decide (opn mask i)) (pthL n mask fl lim i))) u22.1 u22.2 := h23
          refine lv_iinc (v := nI (i + 1)) (lv' := [(4, .int (nI (i + 1))), (0, .ref r0), (1, .ref h0), (2, .int xf), (3, .int (nI lim))]) hx hb dX0_messageRead_107 hl (k := 0) rfl (nI_add i 1) (by decide) rfl (fun ls hl => ?_)
          refine lv_goto (tgt := 81) hx hb dX0_messageRead_110 (by decide) ?_
          exact ih4 H locs ls ⟨(nI (grw (hea n fl i) i (decide (opn mask i)) (pthL n mask fl lim i)).length), u19.1, u22.1, u22.2, u19.2.1, u19.2.2, hkp, hP, hD, hS, lv_sub hl [0, 1, 2, 3, 4] rfl⟩
      · exact ⟨ig, fw, (upd fb 0 0), (upd fp 0 0), gb, gp, (fun i hi => by have e : i = 0 := by have h : i < 1 := hi; omega
          subst e; exact ⟨pk_us, pk_us⟩), hP, hD, hS, lv_sub hl [0, 1, 2, 3, 4] rfl⟩
    · skip
      have c2 : ¬ 16 ≤ 16 := fun h9 => c2 ((nI_leI (a := 16) (b := 16) (by omega) (by omega)).mpr h9)
      omega
  · intro t ht ih1 H locs ls hI
    obtain ⟨fr, hh, hP, hD, hS, hl⟩ := hI
    refine lv_iload hx hb dX0_messageRead_11 (lv_at hl 0 rfl) ?_
    refine lv_bipush (v := 16) hx hb dX0_messageRead_13 (by decide) ?_
    refine lv_icmp_ge (tgt := 59) hx hb dX0_messageRead_15 (by decide) (fun c25 => ?_) (fun c25 => ?_)
    · skip
      have c25 : 16 ≤ t := (nI_leI (a := 16) (b := t) (by omega) (by omega)).mp c25
      omega
    · skip
      have c25 : ¬ 16 ≤ t := fun h9 => c25 ((nI_leI (a := 16) (b := t) (by omega) (by omega)).mpr h9)
      refine lv_aload_n hx hb dX0_messageRead_18 rfl (lv_at hl 1 rfl) ?_
      refine va_get (D := D) (ci := 0) (v := .ref r1) (C := RX0) (T := TX0) (N := 12) hx hb hts hi0 hown hK hP 0 rfl rfl 0 (by decide) (hts (.fieldLink RX0 9 "PairedChannels$Reading" "received" "[I") (List.mem_of_getElem? (i := 3) (by decide +kernel))) (fun _ h9 => h9) rfl dX0_messageRead_19 ?_
      refine lv_iload hx hb dX0_messageRead_22 (lv_at hl 0 rfl) ?_
      refine lv_iload_n hx hb dX0_messageRead_24 rfl (lv_at hl 3 rfl) ?_
      refine lv_iload hx hb dX0_messageRead_25 (lv_at hl 0 rfl) ?_
      refine lv_ishr hx hb dX0_messageRead_27 ?_
      refine lv_iconst (v := 1) hx hb dX0_messageRead_28 (by decide) ?_
      refine lv_iand hx hb dX0_messageRead_29 ?_
      refine lv_eqi (bitI xf t) rfl ?_
      refine lv_iconst (v := 1) hx hb dX0_messageRead_30 (by decide) ?_
      refine g_cut (F0 mm 52 ls [.int (if bitI xf t = 1 then (-(vf t)) else vf t), .int (nI t), .ref r1]) (fun hJ => ?_) ?_
      · refine lv_icmp_ne (tgt := 45) hx hb dX0_messageRead_31 (by decide) (fun c26 => ?_) (fun c26 => ?_)
        · skip
          refine lv_aload_n hx hb dX0_messageRead_45 rfl (lv_at hl 2 rfl) ?_
          refine va_get (D := D) (ci := 2) (v := .ref hv) (C := RX2) (T := TX2) (N := 4) hx hb hts hi2 hown hK hP 9 rfl rfl 0 (by decide) (hts (.fieldLink RX0 44 "PairedChannels$Word" "values" "[I") (List.mem_of_getElem? (i := 4) (by decide +kernel))) (fun _ h9 => h9) rfl dX0_messageRead_46 ?_
          refine lv_iload hx hb dX0_messageRead_49 (lv_at hl 0 rfl) ?_
          refine wa_iald hx hb hK hP 10 0 rfl rfl (t) rfl (by omega) (by decide) dX0_messageRead_51 ?_
          rw [if_neg c26] at hJ
          exact hJ
        · skip
          refine lv_aload_n hx hb dX0_messageRead_34 rfl (lv_at hl 2 rfl) ?_
          refine va_get (D := D) (ci := 2) (v := .ref hv) (C := RX2) (T := TX2) (N := 4) hx hb hts hi2 hown hK hP 9 rfl rfl 0 (by decide) (hts (.fieldLink RX0 44 "PairedChannels$Word" "values" "[I") (List.mem_of_getElem? (i := 4) (by decide +kernel))) (fun _ h9 => h9) rfl dX0_messageRead_35 ?_
          refine lv_iload hx hb dX0_messageRead_38 (lv_at hl 0 rfl) ?_
          refine wa_iald hx hb hK hP 10 0 rfl rfl (t) rfl (by omega) (by decide) dX0_messageRead_40 ?_
          refine lv_ineg hx hb dX0_messageRead_41 ?_
          refine lv_goto (tgt := 52) hx hb dX0_messageRead_42 (by decide) ?_
          rw [if_pos c26] at hJ
          exact hJ
      · skip
        refine wa_iast (x := (if bitI xf t = 1 then (-(vf t)) else vf t)) hx hb hK hP hD hS 1 0 rfl rfl (t) rfl (by omega) (by decide) dX0_messageRead_52 (fun H locs hP hD hS => ?_)
        have hP : va_P D vwCl [(r0, .inr (0, [.ref r1, .ref r2, .ref r3, .ref r4, .ref r5, .ref r6, .ref r7, .ref r8, .int ig, .int (nI n), .int ip, .int ir])), (r1, .inl (K 0, 16, .inl (upd fr t (if bitI xf t = 1 then (-(vf t)) else vf t)))), (r2, .inl (K 0, 16, .inl fw)), (r3, .inl (K 0, 4, .inl fb)), (r4, .inl (K 0, 4, .inl fp)), (r5, .inl (K 0, 4, .inl fm)), (r6, .inl (K 1, 4, .inl fi)), (r7, .inl (K 0, 8, .inl gb)), (r8, .inl (K 0, 8, .inl gp)), (h0, .inr (2, [.ref hv, .ref hs, .int (nI n), .int mask])), (hv, .inl (K 0, 16, .inl vf)), (hs, .inl (K 0, 4, .inl sf))] H := hP
        have hD : va_D A [(r0, .inr (0, [.ref r1, .ref r2, .ref r3, .ref r4, .ref r5, .ref r6, .ref r7, .ref r8, .int ig, .int (nI n), .int ip, .int ir])), (r1, .inl (K 0, 16, .inl (upd fr t (if bitI xf t = 1 then (-(vf t)) else vf t)))), (r2, .inl (K 0, 16, .inl fw)), (r3, .inl (K 0, 4, .inl fb)), (r4, .inl (K 0, 4, .inl fp)), (r5, .inl (K 0, 4, .inl fm)), (r6, .inl (K 1, 4, .inl fi)), (r7, .inl (K 0, 8, .inl gb)), (r8, .inl (K 0, 8, .inl gp)), (h0, .inr (2, [.ref hv, .ref hs, .int (nI n), .int mask])), (hv, .inl (K 0, 16, .inl vf)), (hs, .inl (K 0, 4, .inl sf))] := hD
        refine lv_iinc (v := nI (t + 1)) (lv' := [(4, .int (nI (t + 1))), (0, .ref r0), (1, .ref h0), (2, .int xf), (3, .int (nI lim))]) hx hb dX0_messageRead_53 hl (k := 0) rfl (nI_add t 1) (by decide) rfl (fun ls hl => ?_)
        refine lv_goto (tgt := 11) hx hb dX0_messageRead_56 (by decide) ?_
        exact ih1 H locs ls ⟨(upd fr t (if bitI xf t = 1 then (-(vf t)) else vf t)), (fun i hi => by by_cases e : i = t; · subst e; exact pk_us; · rw [pk_un e]; exact hh i (by omega)), hP, hD, hS, lv_sub hl [0, 1, 2, 3, 4] rfl⟩
  · exact ⟨fr, (fun i hi => absurd hi (Nat.not_lt_zero i)), hP, hD, hS, lv_sub hl [0, 1, 2, 3, 4] rfl⟩

set_option maxHeartbeats 4000000 in
set_option maxRecDepth 100000 in
theorem c_X0_heardByFirst (l : Launch) (D : va_G) (K : Nat → ClassId) (r0 : Nat) (r1 : Nat) (r2 : Nat) (r3 : Nat) (r4 : Nat) (r5 : Nat) (r6 : Nat) (r7 : Nat) (r8 : Nat) (n : Nat) (ig : Int32) (ip : Int32) (ir : Int32) (b : Int32) (pl : Nat) (fr : Nat → Int32) (fw : Nat → Int32) (fb : Nat → Int32) (hn : okN n) (hp : pl < n) : MWi l yX0_heardByFirst wsX0_heardByFirst ({ frames := 2, cells := 0, slots := 0, locals := 65 } : Room) D (gTy K) [.ref r0, .int (nI pl)] [(r0, .inr (0, [.ref r1, .ref r2, .ref r3, .ref r4, .ref r5, .ref r6, .ref r7, .ref r8, .int ig, .int (nI n), .int ip, .int ir])), (r1, .inl (K 0, 16, .inl fr)), (r2, .inl (K 0, 16, .inl fw)), (r3, .inl (K 0, 4, .inl fb))] (fun (u : Nat → Int32) => [(r0, .inr (0, [.ref r1, .ref r2, .ref r3, .ref r4, .ref r5, .ref r6, .ref r7, .ref r8, .int ig, .int (nI n), .int ip, .int ir])), (r1, .inl (K 0, 16, .inl fr)), (r2, .inl (K 0, 16, .inl u)), (r3, .inl (K 0, 4, .inl fb))]) (fun r (u : Nat → Int32) => r = hea n fr pl (fb 0)) 0 0 := by
  refine g_ofW (Qc := fun A => va_Qi _ (gB D (gTy K) A _) A) (cc := cX0_heardByFirst) (maxL := 2) (ret := (some .int)) (own := RX0) (by decide) rfl rfl (Nat.le_of_ble_eq_true rfl) ?_
  intro pp ee s mm below meth cc A hfx hnm hK hP hD hE hS hA ls hl
  obtain ⟨hx, hb, hr, hml, hown, hts, hlk⟩ := hfx
  have hl : lv_has ls 2 [(0, .ref r0), (1, .int (nI pl))] := hl
  have hi0 : ∀ w ∈ u_ws RX0 TX0 12, w ∈ wsX0_heardByFirst := fun w h => List.mem_cons_of_mem _ (List.mem_append_right _ (h))
  refine lv_aload_n hx hb dX0_heardByFirst_0 rfl (lv_at hl 0 rfl) ?_
  refine lv_aload_n hx hb dX0_heardByFirst_1 rfl (lv_at hl 0 rfl) ?_
  refine va_get (D := D) (ci := 0) (v := .ref r3) (C := RX0) (T := TX0) (N := 12) hx hb hts hi0 hown hK hP 0 rfl rfl 2 (by decide) (hts (.fieldLink RX0 18 "PairedChannels$Reading" "bits" "[I") (List.mem_of_getElem? (i := 1) (by decide +kernel))) (fun _ h9 => h9) rfl dX0_heardByFirst_2 ?_
  refine lv_iconst (v := 0) hx hb dX0_heardByFirst_5 (by decide) ?_
  refine wa_iald hx hb hK hP 3 0 rfl rfl (0) rfl (by omega) (by decide) dX0_heardByFirst_6 ?_
  refine lv_iload_n hx hb dX0_heardByFirst_7 rfl (lv_at hl 1 rfl) ?_
  refine gW_i (wr := [(r3, .inl (K 0, 4, .inl fb))]) (W2 := (fun (u : Nat → Int32) => [(r0, .inr (0, [.ref r1, .ref r2, .ref r3, .ref r4, .ref r5, .ref r6, .ref r7, .ref r8, .int ig, .int (nI n), .int ip, .int ir])), (r1, .inl (K 0, 16, .inl fr)), (r2, .inl (K 0, 16, .inl u)), (r3, .inl (K 0, 4, .inl fb))])) (va_runV (As := [.int (fb 0), .int (nI pl)]) (rest := []) ⟨hx, hb, hml, hown, hts⟩ ((c_X0_hear l D K r0 r1 r2 r3 r4 r5 r6 r7 r8 n ig ip ir (fb 0) pl fr fw (by first | assumption | omega) (by first | assumption | omega)) H.size) (cwV 2 hts gX0_heardByFirst_X0_hear rfl rfl rfl (by decide +kernel) ⟨Nat.le_of_ble_eq_true rfl, Nat.le_of_ble_eq_true rfl⟩) (gW_preV hE hS hK hP hD hA [0, 1, 2] rfl (by decide) 0 rfl rfl rfl) rfl rfl hl.1 rfl (lv_room (Nat.le_of_ble_eq_true rfl)) dX0_heardByFirst_8 ⟨Nat.le_of_ble_eq_true rfl, Nat.le_of_ble_eq_true rfl⟩) hS hP hD hA [0, 1, 2] [3] [1, 2, 3, 0] rfl rfl (by decide) (by decide) (by decide) (fun _ => rfl) (fun rv3 u1 H locs h2 hP hD hS => ?_)
  have hP : va_P D vwCl [(r0, .inr (0, [.ref r1, .ref r2, .ref r3, .ref r4, .ref r5, .ref r6, .ref r7, .ref r8, .int ig, .int (nI n), .int ip, .int ir])), (r1, .inl (K 0, 16, .inl fr)), (r2, .inl (K 0, 16, .inl u1)), (r3, .inl (K 0, 4, .inl fb))] H := hP
  have hD : va_D A [(r0, .inr (0, [.ref r1, .ref r2, .ref r3, .ref r4, .ref r5, .ref r6, .ref r7, .ref r8, .int ig, .int (nI n), .int ip, .int ir])), (r1, .inl (K 0, 16, .inl fr)), (r2, .inl (K 0, 16, .inl u1)), (r3, .inl (K 0, 4, .inl fb))] := hD
  have h2 : rv3 = hea n fr pl (fb 0) := h2
  exact gW_iret (v := rv3) u1 hx hb hr hlk (rfl) hK hP hD hS (h2) dX0_heardByFirst_11

set_option maxHeartbeats 4000000 in
set_option maxRecDepth 100000 in
theorem c_X0_rightPaths (l : Launch) (D : va_G) (K : Nat → ClassId) (r0 : Nat) (r1 : Nat) (r2 : Nat) (r3 : Nat) (r4 : Nat) (r5 : Nat) (r6 : Nat) (r7 : Nat) (r8 : Nat) (n : Nat) (ig : Int32) (ir : Int32) (mask : Int32) (sf : Nat → Int32) (P : PL) (fi : Nat → Int32) (hP4 : P.length ≤ 4) (hfi : ∀ i, i < P.length → fi i = (if rgt n mask sf (msP n mask P i) then 1 else 0)) : MRi l yX0_rightPaths wsX0_rightPaths ({ frames := 0, cells := 0, slots := 0, locals := 0 } : Room) D (gTy K) [.ref r0] [(r0, .inr (0, [.ref r1, .ref r2, .ref r3, .ref r4, .ref r5, .ref r6, .ref r7, .ref r8, .int ig, .int (nI n), .int (nI P.length), .int ir])), (r6, .inl (K 1, 4, .inl fi))] (fun r => r = nI (rgC n mask sf P P.length)) := by
  refine g_ofR (cc := cX0_rightPaths) (maxL := 3) (ret := (some .int)) (own := RX0) (by decide) rfl rfl (Nat.le_of_ble_eq_true rfl) ?_
  intro pp ee s mm below meth cc hfx hK hP hE hS ls hl
  obtain ⟨hx, hb, hr, hml, hown, hts, hlk⟩ := hfx
  have hl : lv_has ls 3 [(2, .int 0), (1, .int 0), (0, .ref r0)] := hl
  have hi0 : ∀ w ∈ u_ws RX0 TX0 12, w ∈ wsX0_rightPaths := fun w h => List.mem_cons_of_mem _ (List.mem_append_right _ (h))
  refine lv_iconst (v := 0) hx hb dX0_rightPaths_0 (by decide) ?_
  refine lv_istore_n (lv' := [(1, .int 0), (0, .ref r0)]) hx hb dX0_rightPaths_1 rfl hl (by decide) rfl (fun ls hl => ?_)
  refine lv_iconst (v := 0) hx hb dX0_rightPaths_2 (by decide) ?_
  refine lv_istore_n (lv' := [(2, .int 0), (1, .int 0), (0, .ref r0)]) hx hb dX0_rightPaths_3 rfl hl (by decide) rfl (fun ls hl => ?_)
  refine g_loopW (st := []) (N := P.length) (fun t H locs ls => va_P D vwCl [(r0, .inr (0, [.ref r1, .ref r2, .ref r3, .ref r4, .ref r5, .ref r6, .ref r7, .ref r8, .int ig, .int (nI n), .int (nI P.length), .int ir])), (r6, .inl (K 1, 4, .inl fi))] H ∧ va_S gNo s.heap H locs ∧ lv_has ls 3 [(2, .int (nI t)), (1, .int (nI (rgC n mask sf P t))), (0, .ref r0)]) 0 (Nat.zero_le _) ?_ ?_ ?_
  · intro H locs ls hI
    obtain ⟨hP, hS, hl⟩ := hI
    refine lv_iload_n hx hb dX0_rightPaths_4 rfl (lv_at hl 0 rfl) ?_
    refine lv_aload_n hx hb dX0_rightPaths_5 rfl (lv_at hl 2 rfl) ?_
    refine va_get (D := D) (ci := 0) (v := .int (nI P.length)) (C := RX0) (T := TX0) (N := 12) hx hb hts hi0 hown hK hP 0 rfl rfl 10 (by decide) (hts (.fieldLink RX0 47 "PairedChannels$Reading" "paths" "I") (List.mem_of_getElem? (i := 1) (by decide +kernel))) (fun _ h9 => h9) rfl dX0_rightPaths_6 ?_
    refine lv_icmp_ge (tgt := 35) hx hb dX0_rightPaths_9 (by decide) (fun c2 => ?_) (fun c2 => ?_)
    · skip
      have c2 : P.length ≤ P.length := (nI_leI (a := P.length) (b := P.length) (by omega) (by omega)).mp c2
      refine lv_iload_n hx hb dX0_rightPaths_35 rfl (lv_at hl 1 rfl) ?_
      exact gR_iret (v := nI (rgC n mask sf P P.length)) hx hb hr hlk (rfl) hS (rfl) dX0_rightPaths_36
    · skip
      have c2 : ¬ P.length ≤ P.length := fun h9 => c2 ((nI_leI (a := P.length) (b := P.length) (by omega) (by omega)).mpr h9)
      omega
  · intro t ht ih1 H locs ls hI
    obtain ⟨hP, hS, hl⟩ := hI
    refine lv_iload_n hx hb dX0_rightPaths_4 rfl (lv_at hl 0 rfl) ?_
    refine lv_aload_n hx hb dX0_rightPaths_5 rfl (lv_at hl 2 rfl) ?_
    refine va_get (D := D) (ci := 0) (v := .int (nI P.length)) (C := RX0) (T := TX0) (N := 12) hx hb hts hi0 hown hK hP 0 rfl rfl 10 (by decide) (hts (.fieldLink RX0 47 "PairedChannels$Reading" "paths" "I") (List.mem_of_getElem? (i := 1) (by decide +kernel))) (fun _ h9 => h9) rfl dX0_rightPaths_6 ?_
    refine lv_icmp_ge (tgt := 35) hx hb dX0_rightPaths_9 (by decide) (fun c3 => ?_) (fun c3 => ?_)
    · skip
      have c3 : P.length ≤ t := (nI_leI (a := P.length) (b := t) (by omega) (by omega)).mp c3
      omega
    · skip
      have c3 : ¬ P.length ≤ t := fun h9 => c3 ((nI_leI (a := P.length) (b := t) (by omega) (by omega)).mpr h9)
      refine lv_iload_n hx hb dX0_rightPaths_12 rfl (lv_at hl 1 rfl) ?_
      refine lv_aload_n hx hb dX0_rightPaths_13 rfl (lv_at hl 2 rfl) ?_
      refine va_get (D := D) (ci := 0) (v := .ref r6) (C := RX0) (T := TX0) (N := 12) hx hb hts hi0 hown hK hP 0 rfl rfl 5 (by decide) (hts (.fieldLink RX0 27 "PairedChannels$Reading" "isRight" "[Z") (List.mem_of_getElem? (i := 2) (by decide +kernel))) (fun _ h9 => h9) rfl dX0_rightPaths_14 ?_
      refine lv_iload_n hx hb dX0_rightPaths_17 rfl (lv_at hl 0 rfl) ?_
      refine wa_zald hx hb hK hP 1 1 rfl rfl (t) rfl (by omega) (by decide) dX0_rightPaths_18 ?_
      refine lv_eqi ((if rgt n mask sf (msP n mask P t) then 1 else 0)) (hfi t ht) ?_
      refine g_cut (F0 mm 27 ls [.int (if rgt n mask sf (msP n mask P t) then 1 else 0), .int (nI (rgC n mask sf P t))]) (fun hJ => ?_) ?_
      · refine lv_if_eq (tgt := 26) hx hb dX0_rightPaths_19 (by decide) (fun c4 => ?_) (fun c4 => ?_)
        · skip
          have c4 : ¬ (rgt n mask sf (msP n mask P t)) := b_eq0 c4
          refine lv_iconst (v := 0) hx hb dX0_rightPaths_26 (by decide) ?_
          rw [if_neg (fun h => h c4)] at hJ
          exact hJ
        · skip
          have c4 : rgt n mask sf (msP n mask P t) := b_ne0 c4
          refine lv_iconst (v := 1) hx hb dX0_rightPaths_22 (by decide) ?_
          refine lv_goto (tgt := 27) hx hb dX0_rightPaths_23 (by decide) ?_
          rw [if_pos (by first | exact c4 | exact Decidable.not_not.mp c4 | exact (by simpa using c4))] at hJ
          exact hJ
      · skip
        refine lv_iadd hx hb dX0_rightPaths_27 ?_
        refine lv_istore_n (lv' := [(1, .int (nI (rgC n mask sf P t) + (if rgt n mask sf (msP n mask P t) then 1 else 0))), (2, .int (nI t)), (0, .ref r0)]) hx hb dX0_rightPaths_28 rfl hl (by decide) rfl (fun ls hl => ?_)
        refine lv_iinc (v := nI (t + 1)) (lv' := [(2, .int (nI (t + 1))), (1, .int (nI (rgC n mask sf P t) + (if rgt n mask sf (msP n mask P t) then 1 else 0))), (0, .ref r0)]) hx hb dX0_rightPaths_29 hl (k := 1) rfl (nI_add t 1) (by decide) rfl (fun ls hl => ?_)
        refine lv_goto (tgt := 4) hx hb dX0_rightPaths_32 (by decide) ?_
        have e9 : (nI (rgC n mask sf P t) + (if rgt n mask sf (msP n mask P t) then 1 else 0)) = (nI (rgC n mask sf P t + 1)) := nI_ite _ _
        rw [e9] at hl
        exact ih1 H locs ls ⟨hP, hS, lv_sub hl [0, 1, 2] rfl⟩
  · exact ⟨hP, hS, lv_sub hl [0, 1, 2] rfl⟩
