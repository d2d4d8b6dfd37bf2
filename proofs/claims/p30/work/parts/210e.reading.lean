set_option maxHeartbeats 4000000 in
set_option maxRecDepth 100000 in
theorem c_X0_messageRead (l : Launch) (D : va_G) (K : Nat → ClassId) (r0 : Nat) (r1 : Nat) (r2 : Nat) (r3 : Nat) (r4 : Nat) (r5 : Nat) (r6 : Nat) (r7 : Nat) (r8 : Nat) (n0 : Nat) (ig : Int32) (ip : Int32) (ir : Int32) (h0 : Nat) (hv : Nat) (hs : Nat) (n : Nat) (mask : Int32) (vf : Nat → Int32) (sf : Nat → Int32) (xf : Int32) (lim : Nat) (fl : Nat → Int32) (fr : Nat → Int32) (fw : Nat → Int32) (fb : Nat → Int32) (fp : Nat → Int32) (fm : Nat → Int32) (fi : Nat → Int32) (gb : Nat → Int32) (gp : Nat → Int32) (hn : okN n) (hm : okM mask n) (hsf : okS sf) (hl1 : 1 ≤ lim) (hl4 : lim ≤ 4) (hfl : ∀ j, j < 16 → fl j = (if bitI xf j = 1 then -(vf j) else vf j)) (hvl : okV fl) : MWi l yX0_messageRead wsX0_messageRead ({ frames := 5, cells := 0, slots := 0, locals := 105 } : Room) D (gTy K) [.ref r0, .ref h0, .int xf, .int (nI lim)] [(r0, .inr (0, [.ref r1, .ref r2, .ref r3, .ref r4, .ref r5, .ref r6, .ref r7, .ref r8, .int ig, .int (nI n0), .int ip, .int ir])), (r1, .inl (K 0, 16, .inl fr)), (r2, .inl (K 0, 16, .inl fw)), (r3, .inl (K 0, 4, .inl fb)), (r4, .inl (K 0, 4, .inl fp)), (r5, .inl (K 0, 4, .inl fm)), (r6, .inl (K 1, 4, .inl fi)), (r7, .inl (K 0, 8, .inl gb)), (r8, .inl (K 0, 8, .inl gp)), (h0, .inr (2, [.ref hv, .ref hs, .int (nI n), .int mask])), (hv, .inl (K 0, 16, .inl vf)), (hs, .inl (K 0, 4, .inl sf))] (fun (u : Int32 × (Nat → Int32) × (Nat → Int32) × (Nat → Int32) × (Nat → Int32) × (Nat → Int32) × (Nat → Int32) × (Nat → Int32)) => [(r0, .inr (0, [.ref r1, .ref r2, .ref r3, .ref r4, .ref r5, .ref r6, .ref r7, .ref r8, .int u.1, .int (nI n), .int (nI ((rdL n mask fl lim).length)), .int (rrk n mask sf (rdL n mask fl lim) (rdL n mask fl lim).length)])), (r1, .inl (K 0, 16, .inl fl)), (r2, .inl (K 0, 16, .inl u.2.1)), (r3, .inl (K 0, 4, .inl u.2.2.1)), (r4, .inl (K 0, 4, .inl u.2.2.2.1)), (r5, .inl (K 0, 4, .inl u.2.2.2.2.1)), (r6, .inl (K 1, 4, .inl u.2.2.2.2.2.1)), (r7, .inl (K 0, 8, .inl u.2.2.2.2.2.2.1)), (r8, .inl (K 0, 8, .inl u.2.2.2.2.2.2.2)), (h0, .inr (2, [.ref hv, .ref hs, .int (nI n), .int mask])), (hv, .inl (K 0, 16, .inl vf)), (hs, .inl (K 0, 4, .inl sf))]) (fun r (u : Int32 × (Nat → Int32) × (Nat → Int32) × (Nat → Int32) × (Nat → Int32) × (Nat → Int32) × (Nat → Int32) × (Nat → Int32)) => r = rdM n mask sf (rdL n mask fl lim) ∧ hol (rdL n mask fl lim) u.2.2.1 u.2.2.2.1 ∧ (∀ i, i < (rdL n mask fl lim).length → u.2.2.2.2.1 i = msP n mask (rdL n mask fl lim) i ∧ u.2.2.2.2.2.1 i = (if rgt n mask sf (msP n mask (rdL n mask fl lim) i) then 1 else 0))) 0 0 := by
  refine g_ofW (Qc := fun A => va_Qi _ (gB D (gTy K) A _) A) (cc := cX0_messageRead) (maxL := 5) (ret := (some .int)) (own := RX0) (by decide) rfl rfl (Nat.le_of_ble_eq_true rfl) ?_
  intro pp ee s mm below meth cc A hfx hnm hK hP hD hE hS hA ls hl
  obtain ⟨hx, hb, hr, hml, hown, hts, hlk⟩ := hfx
  have hl : lv_has ls 5 [(0, .ref r0), (1, .ref h0), (2, .int xf), (3, .int (nI lim))] := hl
  have hi0 : ∀ w ∈ u_ws RX0 TX0 12, w ∈ wsX0_messageRead := fun w h => List.mem_cons_of_mem _ (List.mem_append_right _ (h))
  have hi2 : ∀ w ∈ u_ws RX2 TX2 4, w ∈ wsX0_messageRead := fun w h => List.mem_cons_of_mem _ (List.mem_append_left _ (List.mem_append_right _ (h)))
  have hnl := hn.le
  have hll := rdL_len (n := n) (mask := mask) (vf := fl) hl1
  refine lv_aload_n hx hb dX0_messageRead_0 rfl (lv_at hl 0 rfl) ?_
  refine lv_aload_n hx hb dX0_messageRead_1 rfl (lv_at hl 1 rfl) ?_
  refine va_get (D := D) (ci := 2) (v := .int (nI n)) (C := RX2) (T := TX2) (N := 4) hx hb hts hi2 hown hK hP 9 rfl rfl 2 (by decide) (hts (.fieldLink RX0 37 "PairedChannels$Word" "places" "I") (List.mem_of_getElem? (i := 1) (by decide +kernel))) (fun _ h9 => h9) rfl dX0_messageRead_2 ?_
  refine va_put (D := D) (ci := 0) (v := .int (nI n)) (ty := .int) (C := RX0) (T := TX0) (N := 12) hx hb hts hi0 tyX0 tyX0_ok nmX0 hown hK hP hD hS 0 rfl rfl 9 (by decide) (hts (.fieldLink RX0 43 "PairedChannels$Reading" "places" "I") (List.mem_of_getElem? (i := 2) (by decide +kernel))) (fun _ h9 => h9) rfl (by decide +kernel) (rfl) (rfl) (Nat.le_of_ble_eq_true rfl) dX0_messageRead_5 (fun H locs hP hD hS => ?_)
  have hP : va_P D vwCl [(r0, .inr (0, [.ref r1, .ref r2, .ref r3, .ref r4, .ref r5, .ref r6, .ref r7, .ref r8, .int ig, .int (nI n), .int ip, .int ir])), (r1, .inl (K 0, 16, .inl fr)), (r2, .inl (K 0, 16, .inl fw)), (r3, .inl (K 0, 4, .inl fb)), (r4, .inl (K 0, 4, .inl fp)), (r5, .inl (K 0, 4, .inl fm)), (r6, .inl (K 1, 4, .inl fi)), (r7, .inl (K 0, 8, .inl gb)), (r8, .inl (K 0, 8, .inl gp)), (h0, .inr (2, [.ref hv, .ref hs, .int (nI n), .int mask])), (hv, .inl (K 0, 16, .inl vf)), (hs, .inl (K 0, 4, .inl sf))] _ := hP
  have hD : va_D A [(r0, .inr (0, [.ref r1, .ref r2, .ref r3, .ref r4, .ref r5, .ref r6, .ref r7, .ref r8, .int ig, .int (nI n), .int ip, .int ir])), (r1, .inl (K 0, 16, .inl fr)), (r2, .inl (K 0, 16, .inl fw)), (r3, .inl (K 0, 4, .inl fb)), (r4, .inl (K 0, 4, .inl fp)), (r5, .inl (K 0, 4, .inl fm)), (r6, .inl (K 1, 4, .inl fi)), (r7, .inl (K 0, 8, .inl gb)), (r8, .inl (K 0, 8, .inl gp)), (h0, .inr (2, [.ref hv, .ref hs, .int (nI n), .int mask])), (hv, .inl (K 0, 16, .inl vf)), (hs, .inl (K 0, 4, .inl sf))] := hD
  refine lv_iconst (v := 0) hx hb dX0_messageRead_8 (by decide) ?_
  refine lv_istore (lv' := [(4, .int 0), (0, .ref r0), (1, .ref h0), (2, .int xf), (3, .int (nI lim))]) hx hb dX0_messageRead_9 hl (by decide) rfl (fun ls hl => ?_)
  refine g_loopW (st := []) (N := 16) (fun t H locs ls => ∃ fr : Nat → Int32, (∀ j, j < t → fr j = (if bitI xf j = 1 then -(vf j) else vf j)) ∧ va_P D vwCl [(r0, .inr (0, [.ref r1, .ref r2, .ref r3, .ref r4, .ref r5, .ref r6, .ref r7, .ref r8, .int ig, .int (nI n), .int ip, .int ir])), (r1, .inl (K 0, 16, .inl fr)), (r2, .inl (K 0, 16, .inl fw)), (r3, .inl (K 0, 4, .inl fb)), (r4, .inl (K 0, 4, .inl fp)), (r5, .inl (K 0, 4, .inl fm)), (r6, .inl (K 1, 4, .inl fi)), (r7, .inl (K 0, 8, .inl gb)), (r8, .inl (K 0, 8, .inl gp)), (h0, .inr (2, [.ref hv, .ref hs, .int (nI n), .int mask])), (hv, .inl (K 0, 16, .inl vf)), (hs, .inl (K 0, 4, .inl sf))] H ∧ va_D A [(r0, .inr (0, [.ref r1, .ref r2, .ref r3, .ref r4, .ref r5, .ref r6, .ref r7, .ref r8, .int ig, .int (nI n), .int ip, .int ir])), (r1, .inl (K 0, 16, .inl fr)), (r2, .inl (K 0, 16, .inl fw)), (r3, .inl (K 0, 4, .inl fb)), (r4, .inl (K 0, 4, .inl fp)), (r5, .inl (K 0, 4, .inl fm)), (r6, .inl (K 1, 4, .inl fi)), (r7, .inl (K 0, 8, .inl gb)), (r8, .inl (K 0, 8, .inl gp)), (h0, .inr (2, [.ref hv, .ref hs, .int (nI n), .int mask])), (hv, .inl (K 0, 16, .inl vf)), (hs, .inl (K 0, 4, .inl sf))] ∧ va_S A s.heap H locs ∧ lv_has ls 5 [(4, .int (nI t)), (0, .ref r0), (1, .ref h0), (2, .int xf), (3, .int (nI lim))]) 0 (Nat.zero_le _) ?_ ?_ ?_
  · intro H locs ls hI
    obtain ⟨fr, hh, hP, hD, hS, hl⟩ := hI
    refine lv_iload hx hb dX0_messageRead_11 (lv_at hl 0 rfl) ?_
    refine lv_bipush (v := 16) hx hb dX0_messageRead_13 (by decide) ?_
    refine lv_icmp_ge (tgt := 59) hx hb dX0_messageRead_15 (by decide) (fun c2 => ?_) (fun c2 => ?_)
    · skip
      have c2 : 16 ≤ 16 := (nI_leI (a := 16) (b := 16) (by omega) (by omega)).mp c2
      have hP : va_P D vwCl [(r0, .inr (0, [.ref r1, .ref r2, .ref r3, .ref r4, .ref r5, .ref r6, .ref r7, .ref r8, .int ig, .int (nI n), .int ip, .int ir])), (r1, .inl (K 0, 16, .inl fl)), (r2, .inl (K 0, 16, .inl fw)), (r3, .inl (K 0, 4, .inl fb)), (r4, .inl (K 0, 4, .inl fp)), (r5, .inl (K 0, 4, .inl fm)), (r6, .inl (K 1, 4, .inl fi)), (r7, .inl (K 0, 8, .inl gb)), (r8, .inl (K 0, 8, .inl gp)), (h0, .inr (2, [.ref hv, .ref hs, .int (nI n), .int mask])), (hv, .inl (K 0, 16, .inl vf)), (hs, .inl (K 0, 4, .inl sf))] _ := gP_ext hP 1 rfl (fun j hj => (hh j hj).trans (hfl j hj).symm)
      have hD : va_D A [(r0, .inr (0, [.ref r1, .ref r2, .ref r3, .ref r4, .ref r5, .ref r6, .ref r7, .ref r8, .int ig, .int (nI n), .int ip, .int ir])), (r1, .inl (K 0, 16, .inl fl)), (r2, .inl (K 0, 16, .inl fw)), (r3, .inl (K 0, 4, .inl fb)), (r4, .inl (K 0, 4, .inl fp)), (r5, .inl (K 0, 4, .inl fm)), (r6, .inl (K 1, 4, .inl fi)), (r7, .inl (K 0, 8, .inl gb)), (r8, .inl (K 0, 8, .inl gp)), (h0, .inr (2, [.ref hv, .ref hs, .int (nI n), .int mask])), (hv, .inl (K 0, 16, .inl vf)), (hs, .inl (K 0, 4, .inl sf))] := gD_ext hD 1 rfl
      refine lv_aload_n hx hb dX0_messageRead_59 rfl (lv_at hl 1 rfl) ?_
      refine lv_iconst (v := 1) hx hb dX0_messageRead_60 (by decide) ?_
      refine va_put (D := D) (ci := 0) (v := .int 1) (ty := .int) (C := RX0) (T := TX0) (N := 12) hx hb hts hi0 tyX0 tyX0_ok nmX0 hown hK hP hD hS 0 rfl rfl 10 (by decide) (hts (.fieldLink RX0 47 "PairedChannels$Reading" "paths" "I") (List.mem_of_getElem? (i := 5) (by decide +kernel))) (fun _ h9 => h9) rfl (by decide +kernel) (rfl) (rfl) (Nat.le_of_ble_eq_true rfl) dX0_messageRead_61 (fun H locs hP hD hS => ?_)
      have hP : va_P D vwCl [(r0, .inr (0, [.ref r1, .ref r2, .ref r3, .ref r4, .ref r5, .ref r6, .ref r7, .ref r8, .int ig, .int (nI n), .int 1, .int ir])), (r1, .inl (K 0, 16, .inl fl)), (r2, .inl (K 0, 16, .inl fw)), (r3, .inl (K 0, 4, .inl fb)), (r4, .inl (K 0, 4, .inl fp)), (r5, .inl (K 0, 4, .inl fm)), (r6, .inl (K 1, 4, .inl fi)), (r7, .inl (K 0, 8, .inl gb)), (r8, .inl (K 0, 8, .inl gp)), (h0, .inr (2, [.ref hv, .ref hs, .int (nI n), .int mask])), (hv, .inl (K 0, 16, .inl vf)), (hs, .inl (K 0, 4, .inl sf))] _ := hP
      have hD : va_D A [(r0, .inr (0, [.ref r1, .ref r2, .ref r3, .ref r4, .ref r5, .ref r6, .ref r7, .ref r8, .int ig, .int (nI n), .int 1, .int ir])), (r1, .inl (K 0, 16, .inl fl)), (r2, .inl (K 0, 16, .inl fw)), (r3, .inl (K 0, 4, .inl fb)), (r4, .inl (K 0, 4, .inl fp)), (r5, .inl (K 0, 4, .inl fm)), (r6, .inl (K 1, 4, .inl fi)), (r7, .inl (K 0, 8, .inl gb)), (r8, .inl (K 0, 8, .inl gp)), (h0, .inr (2, [.ref hv, .ref hs, .int (nI n), .int mask])), (hv, .inl (K 0, 16, .inl vf)), (hs, .inl (K 0, 4, .inl sf))] := hD
      refine lv_aload_n hx hb dX0_messageRead_64 rfl (lv_at hl 1 rfl) ?_
      refine va_get (D := D) (ci := 0) (v := .ref r3) (C := RX0) (T := TX0) (N := 12) hx hb hts hi0 hown hK hP 0 rfl rfl 2 (by decide) (hts (.fieldLink RX0 18 "PairedChannels$Reading" "bits" "[I") (List.mem_of_getElem? (i := 6) (by decide +kernel))) (fun _ h9 => h9) rfl dX0_messageRead_65 ?_
      refine lv_iconst (v := 0) hx hb dX0_messageRead_68 (by decide) ?_
      refine lv_iconst (v := 0) hx hb dX0_messageRead_69 (by decide) ?_
      refine wa_iast (x := 0) hx hb hK hP hD hS 3 0 rfl rfl (0) rfl (by omega) (by decide) dX0_messageRead_70 (fun H locs hP hD hS => ?_)
      have hP : va_P D vwCl [(r0, .inr (0, [.ref r1, .ref r2, .ref r3, .ref r4, .ref r5, .ref r6, .ref r7, .ref r8, .int ig, .int (nI n), .int 1, .int ir])), (r1, .inl (K 0, 16, .inl fl)), (r2, .inl (K 0, 16, .inl fw)), (r3, .inl (K 0, 4, .inl (upd fb 0 0))), (r4, .inl (K 0, 4, .inl fp)), (r5, .inl (K 0, 4, .inl fm)), (r6, .inl (K 1, 4, .inl fi)), (r7, .inl (K 0, 8, .inl gb)), (r8, .inl (K 0, 8, .inl gp)), (h0, .inr (2, [.ref hv, .ref hs, .int (nI n), .int mask])), (hv, .inl (K 0, 16, .inl vf)), (hs, .inl (K 0, 4, .inl sf))] _ := hP
      have hD : va_D A [(r0, .inr (0, [.ref r1, .ref r2, .ref r3, .ref r4, .ref r5, .ref r6, .ref r7, .ref r8, .int ig, .int (nI n), .int 1, .int ir])), (r1, .inl (K 0, 16, .inl fl)), (r2, .inl (K 0, 16, .inl fw)), (r3, .inl (K 0, 4, .inl (upd fb 0 0))), (r4, .inl (K 0, 4, .inl fp)), (r5, .inl (K 0, 4, .inl fm)), (r6, .inl (K 1, 4, .inl fi)), (r7, .inl (K 0, 8, .inl gb)), (r8, .inl (K 0, 8, .inl gp)), (h0, .inr (2, [.ref hv, .ref hs, .int (nI n), .int mask])), (hv, .inl (K 0, 16, .inl vf)), (hs, .inl (K 0, 4, .inl sf))] := hD
      refine lv_aload_n hx hb dX0_messageRead_71 rfl (lv_at hl 1 rfl) ?_
      refine va_get (D := D) (ci := 0) (v := .ref r4) (C := RX0) (T := TX0) (N := 12) hx hb hts hi0 hown hK hP 0 rfl rfl 3 (by decide) (hts (.fieldLink RX0 21 "PairedChannels$Reading" "penalties" "[I") (List.mem_of_getElem? (i := 7) (by decide +kernel))) (fun _ h9 => h9) rfl dX0_messageRead_72 ?_
      refine lv_iconst (v := 0) hx hb dX0_messageRead_75 (by decide) ?_
      refine lv_iconst (v := 0) hx hb dX0_messageRead_76 (by decide) ?_
      refine wa_iast (x := 0) hx hb hK hP hD hS 4 0 rfl rfl (0) rfl (by omega) (by decide) dX0_messageRead_77 (fun H locs hP hD hS => ?_)
      have hP : va_P D vwCl [(r0, .inr (0, [.ref r1, .ref r2, .ref r3, .ref r4, .ref r5, .ref r6, .ref r7, .ref r8, .int ig, .int (nI n), .int 1, .int ir])), (r1, .inl (K 0, 16, .inl fl)), (r2, .inl (K 0, 16, .inl fw)), (r3, .inl (K 0, 4, .inl (upd fb 0 0))), (r4, .inl (K 0, 4, .inl (upd fp 0 0))), (r5, .inl (K 0, 4, .inl fm)), (r6, .inl (K 1, 4, .inl fi)), (r7, .inl (K 0, 8, .inl gb)), (r8, .inl (K 0, 8, .inl gp)), (h0, .inr (2, [.ref hv, .ref hs, .int (nI n), .int mask])), (hv, .inl (K 0, 16, .inl vf)), (hs, .inl (K 0, 4, .inl sf))] _ := hP
      have hD : va_D A [(r0, .inr (0, [.ref r1, .ref r2, .ref r3, .ref r4, .ref r5, .ref r6, .ref r7, .ref r8, .int ig, .int (nI n), .int 1, .int ir])), (r1, .inl (K 0, 16, .inl fl)), (r2, .inl (K 0, 16, .inl fw)), (r3, .inl (K 0, 4, .inl (upd fb 0 0))), (r4, .inl (K 0, 4, .inl (upd fp 0 0))), (r5, .inl (K 0, 4, .inl fm)), (r6, .inl (K 1, 4, .inl fi)), (r7, .inl (K 0, 8, .inl gb)), (r8, .inl (K 0, 8, .inl gp)), (h0, .inr (2, [.ref hv, .ref hs, .int (nI n), .int mask])), (hv, .inl (K 0, 16, .inl vf)), (hs, .inl (K 0, 4, .inl sf))] := hD
      refine lv_iconst (v := 0) hx hb dX0_messageRead_78 (by decide) ?_
      refine lv_istore (lv' := [(4, .int 0), (0, .ref r0), (1, .ref h0), (2, .int xf), (3, .int (nI lim))]) hx hb dX0_messageRead_79 hl (by decide) rfl (fun ls hl => ?_)
      have e3 : 1 = (nI ((pthL n mask fl lim 0).length)) := rfl
      rw [e3] at hP hD
      have hP : va_P D vwCl [(r0, .inr (0, [.ref r1, .ref r2, .ref r3, .ref r4, .ref r5, .ref r6, .ref r7, .ref r8, .int ig, .int (nI n), .int (nI ((pthL n mask fl lim 0).length)), .int ir])), (r1, .inl (K 0, 16, .inl fl)), (r2, .inl (K 0, 16, .inl fw)), (r3, .inl (K 0, 4, .inl (upd fb 0 0))), (r4, .inl (K 0, 4, .inl (upd fp 0 0))), (r5, .inl (K 0, 4, .inl fm)), (r6, .inl (K 1, 4, .inl fi)), (r7, .inl (K 0, 8, .inl gb)), (r8, .inl (K 0, 8, .inl gp)), (h0, .inr (2, [.ref hv, .ref hs, .int (nI n), .int mask])), (hv, .inl (K 0, 16, .inl vf)), (hs, .inl (K 0, 4, .inl sf))] _ := hP
      have hD : va_D A [(r0, .inr (0, [.ref r1, .ref r2, .ref r3, .ref r4, .ref r5, .ref r6, .ref r7, .ref r8, .int ig, .int (nI n), .int (nI ((pthL n mask fl lim 0).length)), .int ir])), (r1, .inl (K 0, 16, .inl fl)), (r2, .inl (K 0, 16, .inl fw)), (r3, .inl (K 0, 4, .inl (upd fb 0 0))), (r4, .inl (K 0, 4, .inl (upd fp 0 0))), (r5, .inl (K 0, 4, .inl fm)), (r6, .inl (K 1, 4, .inl fi)), (r7, .inl (K 0, 8, .inl gb)), (r8, .inl (K 0, 8, .inl gp)), (h0, .inr (2, [.ref hv, .ref hs, .int (nI n), .int mask])), (hv, .inl (K 0, 16, .inl vf)), (hs, .inl (K 0, 4, .inl sf))] := hD
      refine g_loopW (st := []) (N := n) (fun i H locs ls => ∃ ig : Int32, ∃ fw : Nat → Int32, ∃ fb : Nat → Int32, ∃ fp : Nat → Int32, ∃ gb : Nat → Int32, ∃ gp : Nat → Int32, (hol (pthL n mask fl lim i) fb fp) ∧ va_P D vwCl [(r0, .inr (0, [.ref r1, .ref r2, .ref r3, .ref r4, .ref r5, .ref r6, .ref r7, .ref r8, .int ig, .int (nI n), .int (nI ((pthL n mask fl lim i).length)), .int ir])), (r1, .inl (K 0, 16, .inl fl)), (r2, .inl (K 0, 16, .inl fw)), (r3, .inl (K 0, 4, .inl fb)), (r4, .inl (K 0, 4, .inl fp)), (r5, .inl (K 0, 4, .inl fm)), (r6, .inl (K 1, 4, .inl fi)), (r7, .inl (K 0, 8, .inl gb)), (r8, .inl (K 0, 8, .inl gp)), (h0, .inr (2, [.ref hv, .ref hs, .int (nI n), .int mask])), (hv, .inl (K 0, 16, .inl vf)), (hs, .inl (K 0, 4, .inl sf))] H ∧ va_D A [(r0, .inr (0, [.ref r1, .ref r2, .ref r3, .ref r4, .ref r5, .ref r6, .ref r7, .ref r8, .int ig, .int (nI n), .int (nI ((pthL n mask fl lim i).length)), .int ir])), (r1, .inl (K 0, 16, .inl fl)), (r2, .inl (K 0, 16, .inl fw)), (r3, .inl (K 0, 4, .inl fb)), (r4, .inl (K 0, 4, .inl fp)), (r5, .inl (K 0, 4, .inl fm)), (r6, .inl (K 1, 4, .inl fi)), (r7, .inl (K 0, 8, .inl gb)), (r8, .inl (K 0, 8, .inl gp)), (h0, .inr (2, [.ref hv, .ref hs, .int (nI n), .int mask])), (hv, .inl (K 0, 16, .inl vf)), (hs, .inl (K 0, 4, .inl sf))] ∧ va_S A s.heap H locs ∧ lv_has ls 5 [(4, .int (nI i)), (0, .ref r0), (1, .ref h0), (2, .int xf), (3, .int (nI lim))]) 0 (Nat.zero_le _) ?_ ?_ ?_
      · intro H locs ls hI
        obtain ⟨ig, fw, fb, fp, gb, gp, hp0, hP, hD, hS, hl⟩ := hI
        refine lv_iload hx hb dX0_messageRead_81 (lv_at hl 0 rfl) ?_
        refine lv_aload_n hx hb dX0_messageRead_83 rfl (lv_at hl 1 rfl) ?_
        refine va_get (D := D) (ci := 0) (v := .int (nI n)) (C := RX0) (T := TX0) (N := 12) hx hb hts hi0 hown hK hP 0 rfl rfl 9 (by decide) (hts (.fieldLink RX0 43 "PairedChannels$Reading" "places" "I") (List.mem_of_getElem? (i := 2) (by decide +kernel))) (fun _ h9 => h9) rfl dX0_messageRead_84 ?_
        refine lv_icmp_ge (tgt := 113) hx hb dX0_messageRead_87 (by decide) (fun c5 => ?_) (fun c5 => ?_)
        · skip
          have c5 : n ≤ n := (nI_leI (a := n) (b := n) (by omega) (by omega)).mp c5
          have hpn := pth_len (n := n) (mask := mask) (vf := fl) hl1 n
          refine lv_aload_n hx hb dX0_messageRead_113 rfl (lv_at hl 1 rfl) ?_
          refine gW_v (wr := [(r1, .inl (K 0, 16, .inl fl)), (r2, .inl (K 0, 16, .inl fw)), (r5, .inl (K 0, 4, .inl fm)), (r6, .inl (K 1, 4, .inl fi)), (h0, .inr (2, [.ref hv, .ref hs, .int (nI n), .int mask])), (hv, .inl (K 0, 16, .inl vf)), (hs, .inl (K 0, 4, .inl sf))]) (W2 := (fun (u : (Nat → Int32) × (Nat → Int32) × (Nat → Int32) × (Nat → Int32)) => [(r0, .inr (0, [.ref r1, .ref r2, .ref r3, .ref r4, .ref r5, .ref r6, .ref r7, .ref r8, .int (nI (pthL n mask fl lim n).length), .int (nI n), .int (nI (pthL n mask fl lim n).length), .int ir])), (r1, .inl (K 0, 16, .inl fl)), (r2, .inl (K 0, 16, .inl fw)), (r3, .inl (K 0, 4, .inl u.1)), (r4, .inl (K 0, 4, .inl u.2.1)), (r5, .inl (K 0, 4, .inl fm)), (r6, .inl (K 1, 4, .inl fi)), (r7, .inl (K 0, 8, .inl u.2.2.1)), (r8, .inl (K 0, 8, .inl u.2.2.2)), (h0, .inr (2, [.ref hv, .ref hs, .int (nI n), .int mask])), (hv, .inl (K 0, 16, .inl vf)), (hs, .inl (K 0, 4, .inl sf))])) (va_runV (As := []) (rest := []) ⟨hx, hb, hml, hown, hts⟩ ((c_X0_orderByPenalties l D K r0 r1 r2 r3 r4 r5 r6 r7 r8 n ig ir (pthL n mask fl lim n) fb fp gb gp (hp0) (by omega) (okP_100 hn hvl mask lim n hn.le.2)) _) (cwV 0 hts gX0_messageRead_X0_orderByPenalties rfl rfl rfl (by decide +kernel) ⟨Nat.le_of_ble_eq_true rfl, Nat.le_of_ble_eq_true rfl⟩) (gW_preV hE hS hK hP hD hA [0, 3, 4, 7, 8] rfl (by decide) 0 rfl rfl rfl) rfl rfl hl.1 rfl (lv_room (Nat.le_of_ble_eq_true rfl)) dX0_messageRead_114 ⟨Nat.le_of_ble_eq_true rfl, Nat.le_of_ble_eq_true rfl⟩) hS hP hD hA [0, 3, 4, 7, 8] [1, 2, 5, 6, 9, 10, 11] [7, 0, 1, 8, 9, 2, 3, 10, 11, 4, 5, 6] rfl rfl (by decide) (by decide) (by decide) (fun _ => rfl) (fun u6 H locs h7 hP hD hS => ?_)
          have hP : va_P D vwCl [(r0, .inr (0, [.ref r1, .ref r2, .ref r3, .ref r4, .ref r5, .ref r6, .ref r7, .ref r8, .int (nI (pthL n mask fl lim n).length), .int (nI n), .int (nI (pthL n mask fl lim n).length), .int ir])), (r1, .inl (K 0, 16, .inl fl)), (r2, .inl (K 0, 16, .inl fw)), (r3, .inl (K 0, 4, .inl u6.1)), (r4, .inl (K 0, 4, .inl u6.2.1)), (r5, .inl (K 0, 4, .inl fm)), (r6, .inl (K 1, 4, .inl fi)), (r7, .inl (K 0, 8, .inl u6.2.2.1)), (r8, .inl (K 0, 8, .inl u6.2.2.2)), (h0, .inr (2, [.ref hv, .ref hs, .int (nI n), .int mask])), (hv, .inl (K 0, 16, .inl vf)), (hs, .inl (K 0, 4, .inl sf))] _ := hP
          have hD : va_D A [(r0, .inr (0, [.ref r1, .ref r2, .ref r3, .ref r4, .ref r5, .ref r6, .ref r7, .ref r8, .int (nI (pthL n mask fl lim n).length), .int (nI n), .int (nI (pthL n mask fl lim n).length), .int ir])), (r1, .inl (K 0, 16, .inl fl)), (r2, .inl (K 0, 16, .inl fw)), (r3, .inl (K 0, 4, .inl u6.1)), (r4, .inl (K 0, 4, .inl u6.2.1)), (r5, .inl (K 0, 4, .inl fm)), (r6, .inl (K 1, 4, .inl fi)), (r7, .inl (K 0, 8, .inl u6.2.2.1)), (r8, .inl (K 0, 8, .inl u6.2.2.2)), (h0, .inr (2, [.ref hv, .ref hs, .int (nI n), .int mask])), (hv, .inl (K 0, 16, .inl vf)), (hs, .inl (K 0, 4, .inl sf))] := hD
          have hod : hol (ordL (pthL n mask fl lim n)) u6.1 u6.2.1 := h7
          have e9 : (nI (pthL n mask fl lim n).length) = (nI ((rdL n mask fl lim).length)) := congrArg nI (ordL_len _).symm
          rw [e9] at hP hD
          have hP : va_P D vwCl [(r0, .inr (0, [.ref r1, .ref r2, .ref r3, .ref r4, .ref r5, .ref r6, .ref r7, .ref r8, .int (nI ((rdL n mask fl lim).length)), .int (nI n), .int (nI ((rdL n mask fl lim).length)), .int ir])), (r1, .inl (K 0, 16, .inl fl)), (r2, .inl (K 0, 16, .inl fw)), (r3, .inl (K 0, 4, .inl u6.1)), (r4, .inl (K 0, 4, .inl u6.2.1)), (r5, .inl (K 0, 4, .inl fm)), (r6, .inl (K 1, 4, .inl fi)), (r7, .inl (K 0, 8, .inl u6.2.2.1)), (r8, .inl (K 0, 8, .inl u6.2.2.2)), (h0, .inr (2, [.ref hv, .ref hs, .int (nI n), .int mask])), (hv, .inl (K 0, 16, .inl vf)), (hs, .inl (K 0, 4, .inl sf))] _ := hP
          have hD : va_D A [(r0, .inr (0, [.ref r1, .ref r2, .ref r3, .ref r4, .ref r5, .ref r6, .ref r7, .ref r8, .int (nI ((rdL n mask fl lim).length)), .int (nI n), .int (nI ((rdL n mask fl lim).length)), .int ir])), (r1, .inl (K 0, 16, .inl fl)), (r2, .inl (K 0, 16, .inl fw)), (r3, .inl (K 0, 4, .inl u6.1)), (r4, .inl (K 0, 4, .inl u6.2.1)), (r5, .inl (K 0, 4, .inl fm)), (r6, .inl (K 1, 4, .inl fi)), (r7, .inl (K 0, 8, .inl u6.2.2.1)), (r8, .inl (K 0, 8, .inl u6.2.2.2)), (h0, .inr (2, [.ref hv, .ref hs, .int (nI n), .int mask])), (hv, .inl (K 0, 16, .inl vf)), (hs, .inl (K 0, 4, .inl sf))] := hD
          refine lv_aload_n hx hb dX0_messageRead_117 rfl (lv_at hl 1 rfl) ?_
          refine lv_aload_n hx hb dX0_messageRead_118 rfl (lv_at hl 2 rfl) ?_
          refine gW_v (wr := [(r1, .inl (K 0, 16, .inl fl)), (r2, .inl (K 0, 16, .inl fw)), (r4, .inl (K 0, 4, .inl u6.2.1)), (r7, .inl (K 0, 8, .inl u6.2.2.1)), (r8, .inl (K 0, 8, .inl u6.2.2.2)), (hv, .inl (K 0, 16, .inl vf))]) (W2 := (fun (u : (Nat → Int32) × (Nat → Int32)) => [(r0, .inr (0, [.ref r1, .ref r2, .ref r3, .ref r4, .ref r5, .ref r6, .ref r7, .ref r8, .int (nI ((rdL n mask fl lim).length)), .int (nI n), .int (nI (rdL n mask fl lim).length), .int (rrk n mask sf (rdL n mask fl lim) (rdL n mask fl lim).length)])), (r1, .inl (K 0, 16, .inl fl)), (r2, .inl (K 0, 16, .inl fw)), (r3, .inl (K 0, 4, .inl u6.1)), (r4, .inl (K 0, 4, .inl u6.2.1)), (r5, .inl (K 0, 4, .inl u.1)), (r6, .inl (K 1, 4, .inl u.2)), (r7, .inl (K 0, 8, .inl u6.2.2.1)), (r8, .inl (K 0, 8, .inl u6.2.2.2)), (h0, .inr (2, [.ref hv, .ref hs, .int (nI n), .int mask])), (hv, .inl (K 0, 16, .inl vf)), (hs, .inl (K 0, 4, .inl sf))])) (va_runV (As := [.ref h0]) (rest := []) ⟨hx, hb, hml, hown, hts⟩ ((c_X0_judge l D K r0 r1 r2 r3 r4 r5 r6 r7 r8 n (nI ((rdL n mask fl lim).length)) ir h0 hv hs mask sf (rdL n mask fl lim) u6.1 fm fi (by first | assumption | omega) (by first | assumption | omega) (by first | assumption | omega) (by omega) (fun i hi => (hod i hi).1)) _) (cwV 1 hts gX0_messageRead_X0_judge rfl rfl rfl (by decide +kernel) ⟨Nat.le_of_ble_eq_true rfl, Nat.le_of_ble_eq_true rfl⟩) (gW_preV hE hS hK hP hD hA [0, 3, 5, 6, 9, 11] rfl (by decide) 0 rfl rfl rfl) rfl rfl hl.1 rfl (lv_room (Nat.le_of_ble_eq_true rfl)) dX0_messageRead_119 ⟨Nat.le_of_ble_eq_true rfl, Nat.le_of_ble_eq_true rfl⟩) hS hP hD hA [0, 3, 5, 6, 9, 11] [1, 2, 4, 7, 8, 10] [6, 0, 1, 7, 2, 8, 9, 3, 4, 10, 5, 11] rfl rfl (by decide) (by decide) (by decide) (fun _ => rfl) (fun u10 H locs h11 hP hD hS => ?_)
          have hP : va_P D vwCl [(r0, .inr (0, [.ref r1, .ref r2, .ref r3, .ref r4, .ref r5, .ref r6, .ref r7, .ref r8, .int (nI ((rdL n mask fl lim).length)), .int (nI n), .int (nI (rdL n mask fl lim).length), .int (rrk n mask sf (rdL n mask fl lim) (rdL n mask fl lim).length)])), (r1, .inl (K 0, 16, .inl fl)), (r2, .inl (K 0, 16, .inl fw)), (r3, .inl (K 0, 4, .inl u6.1)), (r4, .inl (K 0, 4, .inl u6.2.1)), (r5, .inl (K 0, 4, .inl u10.1)), (r6, .inl (K 1, 4, .inl u10.2)), (r7, .inl (K 0, 8, .inl u6.2.2.1)), (r8, .inl (K 0, 8, .inl u6.2.2.2)), (h0, .inr (2, [.ref hv, .ref hs, .int (nI n), .int mask])), (hv, .inl (K 0, 16, .inl vf)), (hs, .inl (K 0, 4, .inl sf))] _ := hP
          have hD : va_D A [(r0, .inr (0, [.ref r1, .ref r2, .ref r3, .ref r4, .ref r5, .ref r6, .ref r7, .ref r8, .int (nI ((rdL n mask fl lim).length)), .int (nI n), .int (nI (rdL n mask fl lim).length), .int (rrk n mask sf (rdL n mask fl lim) (rdL n mask fl lim).length)])), (r1, .inl (K 0, 16, .inl fl)), (r2, .inl (K 0, 16, .inl fw)), (r3, .inl (K 0, 4, .inl u6.1)), (r4, .inl (K 0, 4, .inl u6.2.1)), (r5, .inl (K 0, 4, .inl u10.1)), (r6, .inl (K 1, 4, .inl u10.2)), (r7, .inl (K 0, 8, .inl u6.2.2.1)), (r8, .inl (K 0, 8, .inl u6.2.2.2)), (h0, .inr (2, [.ref hv, .ref hs, .int (nI n), .int mask])), (hv, .inl (K 0, 16, .inl vf)), (hs, .inl (K 0, 4, .inl sf))] := hD
          have hju : ∀ i, i < (rdL n mask fl lim).length → u10.1 i = msP n mask (rdL n mask fl lim) i ∧ u10.2 i = (if rgt n mask sf (msP n mask (rdL n mask fl lim) i) then 1 else 0) := h11
          refine lv_aload_n hx hb dX0_messageRead_122 rfl (lv_at hl 1 rfl) ?_
          refine va_get (D := D) (ci := 0) (v := .int (rrk n mask sf (rdL n mask fl lim) (rdL n mask fl lim).length)) (C := RX0) (T := TX0) (N := 12) hx hb hts hi0 hown hK hP 0 rfl rfl 11 (by decide) (hts (.fieldLink RX0 69 "PairedChannels$Reading" "rankRead" "I") (List.mem_of_getElem? (i := 8) (by decide +kernel))) (fun _ h9 => h9) rfl dX0_messageRead_123 ?_
          by_cases hrr : fstX n mask sf (rdL n mask fl lim) (rdL n mask fl lim).length < (rdL n mask fl lim).length
          · skip
            rw [rrk_p hrr] at hP hD
            rw [rrk_p hrr]
            refine lv_if_lt (tgt := 149) hx hb dX0_messageRead_126 (by decide) (fun c126 => ?_) (fun c126 => ?_)
            · skip
              have c126 : fstX n mask sf (rdL n mask fl lim) (rdL n mask fl lim).length < 0 := (nI_ltI (a := fstX n mask sf (rdL n mask fl lim) (rdL n mask fl lim).length) (b := 0) (by omega) (by omega)).mp c126
              exact absurd c126 (by omega)
            · skip
              have c126 : ¬ fstX n mask sf (rdL n mask fl lim) (rdL n mask fl lim).length < 0 := fun h9 => c126 ((nI_ltI (a := fstX n mask sf (rdL n mask fl lim) (rdL n mask fl lim).length) (b := 0) (by omega) (by omega)).mpr h9)
              refine lv_aload_n hx hb dX0_messageRead_129 rfl (lv_at hl 1 rfl) ?_
              refine va_get (D := D) (ci := 0) (v := .int (nI (fstX n mask sf (rdL n mask fl lim) (rdL n mask fl lim).length))) (C := RX0) (T := TX0) (N := 12) hx hb hts hi0 hown hK hP 0 rfl rfl 11 (by decide) (hts (.fieldLink RX0 69 "PairedChannels$Reading" "rankRead" "I") (List.mem_of_getElem? (i := 8) (by decide +kernel))) (fun _ h9 => h9) rfl dX0_messageRead_130 ?_
              refine lv_iconst (v := 4) hx hb dX0_messageRead_133 (by decide) ?_
              refine lv_icmp_ge (tgt := 149) hx hb dX0_messageRead_134 (by decide) (fun c134 => ?_) (fun c134 => ?_)
              · skip
                have c134 : 4 ≤ fstX n mask sf (rdL n mask fl lim) (rdL n mask fl lim).length := (nI_leI (a := 4) (b := fstX n mask sf (rdL n mask fl lim) (rdL n mask fl lim).length) (by omega) (by omega)).mp c134
                omega
              · skip
                have c134 : ¬ 4 ≤ fstX n mask sf (rdL n mask fl lim) (rdL n mask fl lim).length := fun h9 => c134 ((nI_leI (a := 4) (b := fstX n mask sf (rdL n mask fl lim) (rdL n mask fl lim).length) (by omega) (by omega)).mpr h9)
                refine lv_aload_n hx hb dX0_messageRead_137 rfl (lv_at hl 1 rfl) ?_
                refine va_get (D := D) (ci := 0) (v := .ref r5) (C := RX0) (T := TX0) (N := 12) hx hb hts hi0 hown hK hP 0 rfl rfl 4 (by decide) (hts (.fieldLink RX0 24 "PairedChannels$Reading" "messages" "[I") (List.mem_of_getElem? (i := 9) (by decide +kernel))) (fun _ h9 => h9) rfl dX0_messageRead_138 ?_
                refine lv_aload_n hx hb dX0_messageRead_141 rfl (lv_at hl 1 rfl) ?_
                refine va_get (D := D) (ci := 0) (v := .int (nI (fstX n mask sf (rdL n mask fl lim) (rdL n mask fl lim).length))) (C := RX0) (T := TX0) (N := 12) hx hb hts hi0 hown hK hP 0 rfl rfl 11 (by decide) (hts (.fieldLink RX0 69 "PairedChannels$Reading" "rankRead" "I") (List.mem_of_getElem? (i := 8) (by decide +kernel))) (fun _ h9 => h9) rfl dX0_messageRead_142 ?_
                refine wa_iald hx hb hK hP 5 0 rfl rfl (fstX n mask sf (rdL n mask fl lim) (rdL n mask fl lim).length) rfl (by omega) (by decide) dX0_messageRead_145 ?_
                refine lv_goto (tgt := 150) hx hb dX0_messageRead_146 (by decide) ?_
                exact gW_iret (v := u10.1 (fstX n mask sf (rdL n mask fl lim) (rdL n mask fl lim).length)) (nI ((rdL n mask fl lim).length), fw, u6.1, u6.2.1, u10.1, u10.2, u6.2.2.1, u6.2.2.2) hx hb hr hlk (rfl) hK hP hD hS (⟨by unfold rdM; first | (rw [if_pos hrr]; exact (hju _ hrr).1) | rw [if_neg hrr], hod, hju⟩) dX0_messageRead_150
          · skip
            rw [rrk_n hrr] at hP hD
            rw [rrk_n hrr]
            refine lv_if_lt (tgt := 149) hx hb dX0_messageRead_126 (by decide) (fun c126 => ?_) (fun c126 => ?_)
            · skip
              refine lv_iconst (v := (-1)) hx hb dX0_messageRead_149 (by decide) ?_
              exact gW_iret (v := (-1)) (nI ((rdL n mask fl lim).length), fw, u6.1, u6.2.1, u10.1, u10.2, u6.2.2.1, u6.2.2.2) hx hb hr hlk (rfl) hK hP hD hS (⟨by unfold rdM; first | (rw [if_pos hrr]; exact (hju _ hrr).1) | rw [if_neg hrr], hod, hju⟩) dX0_messageRead_150
            · skip
              exact absurd (by decide) c126
        · skip
          have c5 : ¬ n ≤ n := fun h9 => c5 ((nI_leI (a := n) (b := n) (by omega) (by omega)).mpr h9)
          omega
      · intro i hi ih4 H locs ls hI
        obtain ⟨ig, fw, fb, fp, gb, gp, hp0, hP, hD, hS, hl⟩ := hI
        have hpl := pth_len (n := n) (mask := mask) (vf := fl) hl1 i
        have hgl := grT_le (hea n fl i) i (decide (opn mask i)) (pthL n mask fl lim i) (pthL n mask fl lim i).length
        refine lv_iload hx hb dX0_messageRead_81 (lv_at hl 0 rfl) ?_
        refine lv_aload_n hx hb dX0_messageRead_83 rfl (lv_at hl 1 rfl) ?_
        refine va_get (D := D) (ci := 0) (v := .int (nI n)) (C := RX0) (T := TX0) (N := 12) hx hb hts hi0 hown hK hP 0 rfl rfl 9 (by decide) (hts (.fieldLink RX0 43 "PairedChannels$Reading" "places" "I") (List.mem_of_getElem? (i := 2) (by decide +kernel))) (fun _ h9 => h9) rfl dX0_messageRead_84 ?_
        refine lv_icmp_ge (tgt := 113) hx hb dX0_messageRead_87 (by decide) (fun c16 => ?_) (fun c16 => ?_)
        · skip
          have c16 : n ≤ i := (nI_leI (a := n) (b := i) (by omega) (by omega)).mp c16
          omega
        · skip
          have c16 : ¬ n ≤ i := fun h9 => c16 ((nI_leI (a := n) (b := i) (by omega) (by omega)).mpr h9)
          refine lv_aload_n hx hb dX0_messageRead_90 rfl (lv_at hl 1 rfl) ?_
          refine lv_iload hx hb dX0_messageRead_91 (lv_at hl 0 rfl) ?_
          refine lv_aload_n hx hb dX0_messageRead_93 rfl (lv_at hl 2 rfl) ?_
          refine lv_iload hx hb dX0_messageRead_94 (lv_at hl 0 rfl) ?_
          refine gR_i (va_runV (As := [.int (nI i)]) (rest := [.int (nI i), .ref r0]) ⟨hx, hb, hml, hown, hts⟩ (c_X2_isOpen l D K h0 hv hs n mask i ) (cwV 1 hts gX0_messageRead_X2_isOpen rfl rfl rfl (by decide +kernel) ⟨Nat.le_of_ble_eq_true rfl, Nat.le_of_ble_eq_true rfl⟩) (gR_preV hE hS hK hP [9] rfl 9 rfl rfl rfl) rfl rfl hl.1 rfl (lv_room (Nat.le_of_ble_eq_true rfl)) dX0_messageRead_96 ⟨Nat.le_of_ble_eq_true rfl, Nat.le_of_ble_eq_true rfl⟩) hS hP (fun rv18 H locs h17 hP hS => ?_)
          have h17 : rv18 = (if opn mask i then 1 else 0) := h17
          subst h17
          refine lv_eqi ((if decide (opn mask i) = true then 1 else 0)) (b_dec _) ?_
          refine gW_v (wr := [(r5, .inl (K 0, 4, .inl fm)), (r6, .inl (K 1, 4, .inl fi)), (h0, .inr (2, [.ref hv, .ref hs, .int (nI n), .int mask])), (hv, .inl (K 0, 16, .inl vf)), (hs, .inl (K 0, 4, .inl sf))]) (W2 := (fun (u : (Nat → Int32) × (Nat → Int32) × (Nat → Int32)) => [(r0, .inr (0, [.ref r1, .ref r2, .ref r3, .ref r4, .ref r5, .ref r6, .ref r7, .ref r8, .int (nI ((grw (hea n fl i) i (decide (opn mask i)) (pthL n mask fl lim i)).length)), .int (nI n), .int (nI (pthL n mask fl lim i).length), .int ir])), (r1, .inl (K 0, 16, .inl fl)), (r2, .inl (K 0, 16, .inl u.1)), (r3, .inl (K 0, 4, .inl fb)), (r4, .inl (K 0, 4, .inl fp)), (r5, .inl (K 0, 4, .inl fm)), (r6, .inl (K 1, 4, .inl fi)), (r7, .inl (K 0, 8, .inl u.2.1)), (r8, .inl (K 0, 8, .inl u.2.2)), (h0, .inr (2, [.ref hv, .ref hs, .int (nI n), .int mask])), (hv, .inl (K 0, 16, .inl vf)), (hs, .inl (K 0, 4, .inl sf))])) (va_runV (As := [.int (nI i), .int (if decide (opn mask i) = true then 1 else 0)]) (rest := []) ⟨hx, hb, hml, hown, hts⟩ ((c_X0_growPaths l D K r0 r1 r2 r3 r4 r5 r6 r7 r8 n ig ir (pthL n mask fl lim i) i (decide (opn mask i)) fl fw fb fp gb gp (by first | assumption | omega) (hi) (by omega) (hp0)) _) (cwV 2 hts gX0_messageRead_X0_growPaths rfl rfl rfl (by decide +kernel) ⟨Nat.le_of_ble_eq_true rfl, Nat.le_of_ble_eq_true rfl⟩) (gW_preV hE hS hK hP hD hA [0, 1, 2, 3, 4, 7, 8] rfl (by decide) 0 rfl rfl rfl) rfl rfl hl.1 rfl (lv_room (Nat.le_of_ble_eq_true rfl)) dX0_messageRead_99 ⟨Nat.le_of_ble_eq_true rfl, Nat.le_of_ble_eq_true rfl⟩) hS hP hD hA [0, 1, 2, 3, 4, 7, 8] [5, 6, 9, 10, 11] [5, 6, 7, 8, 9, 0, 1, 10, 11, 2, 3, 4] rfl rfl (by decide) (by decide) (by decide) (fun _ => rfl) (fun u19 H locs h20 hP hD hS => ?_)
          have hP : va_P D vwCl [(r0, .inr (0, [.ref r1, .ref r2, .ref r3, .ref r4, .ref r5, .ref r6, .ref r7, .ref r8, .int (nI ((grw (hea n fl i) i (decide (opn mask i)) (pthL n mask fl lim i)).length)), .int (nI n), .int (nI (pthL n mask fl lim i).length), .int ir])), (r1, .inl (K 0, 16, .inl fl)), (r2, .inl (K 0, 16, .inl u19.1)), (r3, .inl (K 0, 4, .inl fb)), (r4, .inl (K 0, 4, .inl fp)), (r5, .inl (K 0, 4, .inl fm)), (r6, .inl (K 1, 4, .inl fi)), (r7, .inl (K 0, 8, .inl u19.2.1)), (r8, .inl (K 0, 8, .inl u19.2.2)), (h0, .inr (2, [.ref hv, .ref hs, .int (nI n), .int mask])), (hv, .inl (K 0, 16, .inl vf)), (hs, .inl (K 0, 4, .inl sf))] _ := hP
          have hD : va_D A [(r0, .inr (0, [.ref r1, .ref r2, .ref r3, .ref r4, .ref r5, .ref r6, .ref r7, .ref r8, .int (nI ((grw (hea n fl i) i (decide (opn mask i)) (pthL n mask fl lim i)).length)), .int (nI n), .int (nI (pthL n mask fl lim i).length), .int ir])), (r1, .inl (K 0, 16, .inl fl)), (r2, .inl (K 0, 16, .inl u19.1)), (r3, .inl (K 0, 4, .inl fb)), (r4, .inl (K 0, 4, .inl fp)), (r5, .inl (K 0, 4, .inl fm)), (r6, .inl (K 1, 4, .inl fi)), (r7, .inl (K 0, 8, .inl u19.2.1)), (r8, .inl (K 0, 8, .inl u19.2.2)), (h0, .inr (2, [.ref hv, .ref hs, .int (nI n), .int mask])), (hv, .inl (K 0, 16, .inl vf)), (hs, .inl (K 0, 4, .inl sf))] := hD
          have hgr : hol (grw (hea n fl i) i (decide (opn mask i)) (pthL n mask fl lim i)) u19.2.1 u19.2.2 := h20
          refine lv_aload_n hx hb dX0_messageRead_102 rfl (lv_at hl 1 rfl) ?_
          refine lv_iload_n hx hb dX0_messageRead_103 rfl (lv_at hl 4 rfl) ?_
          refine gW_v (wr := [(r1, .inl (K 0, 16, .inl fl)), (r2, .inl (K 0, 16, .inl u19.1)), (r5, .inl (K 0, 4, .inl fm)), (r6, .inl (K 1, 4, .inl fi)), (h0, .inr (2, [.ref hv, .ref hs, .int (nI n), .int mask])), (hv, .inl (K 0, 16, .inl vf)), (hs, .inl (K 0, 4, .inl sf))]) (W2 := (fun (u : (Nat → Int32) × (Nat → Int32)) => [(r0, .inr (0, [.ref r1, .ref r2, .ref r3, .ref r4, .ref r5, .ref r6, .ref r7, .ref r8, .int (nI (grw (hea n fl i) i (decide (opn mask i)) (pthL n mask fl lim i)).length), .int (nI n), .int (nI ((keepL lim (grw (hea n fl i) i (decide (opn mask i)) (pthL n mask fl lim i))).length)), .int ir])), (r1, .inl (K 0, 16, .inl fl)), (r2, .inl (K 0, 16, .inl u19.1)), (r3, .inl (K 0, 4, .inl u.1)), (r4, .inl (K 0, 4, .inl u.2)), (r5, .inl (K 0, 4, .inl fm)), (r6, .inl (K 1, 4, .inl fi)), (r7, .inl (K 0, 8, .inl u19.2.1)), (r8, .inl (K 0, 8, .inl u19.2.2)), (h0, .inr (2, [.ref hv, .ref hs, .int (nI n), .int mask])), (hv, .inl (K 0, 16, .inl vf)), (hs, .inl (K 0, 4, .inl sf))])) (va_runV (As := [.int (nI lim)]) (rest := []) ⟨hx, hb, hml, hown, hts⟩ ((c_X0_keepLeast l D K r0 r1 r2 r3 r4 r5 r6 r7 r8 n (nI (pthL n mask fl lim i).length) ir (grw (hea n fl i) i (decide (opn mask i)) (pthL n mask fl lim i)) lim fb fp u19.2.1 u19.2.2 (hgr) (by show (grT _ _ _ _ _).length ≤ 8; omega) (by first | assumption | omega) (okP_g hn hvl mask lim (by omega))) _) (cwV 1 hts gX0_messageRead_X0_keepLeast rfl rfl rfl (by decide +kernel) ⟨Nat.le_of_ble_eq_true rfl, Nat.le_of_ble_eq_true rfl⟩) (gW_preV hE hS hK hP hD hA [0, 3, 4, 7, 8] rfl (by decide) 0 rfl rfl rfl) rfl rfl hl.1 rfl (lv_room (Nat.le_of_ble_eq_true rfl)) dX0_messageRead_104 ⟨Nat.le_of_ble_eq_true rfl, Nat.le_of_ble_eq_true rfl⟩) hS hP hD hA [0, 3, 4, 7, 8] [1, 2, 5, 6, 9, 10, 11] [7, 0, 1, 8, 9, 2, 3, 10, 11, 4, 5, 6] rfl rfl (by decide) (by decide) (by decide) (fun _ => rfl) (fun u22 H locs h23 hP hD hS => ?_)
          have hP : va_P D vwCl [(r0, .inr (0, [.ref r1, .ref r2, .ref r3, .ref r4, .ref r5, .ref r6, .ref r7, .ref r8, .int (nI (grw (hea n fl i) i (decide (opn mask i)) (pthL n mask fl lim i)).length), .int (nI n), .int (nI ((keepL lim (grw (hea n fl i) i (decide (opn mask i)) (pthL n mask fl lim i))).length)), .int ir])), (r1, .inl (K 0, 16, .inl fl)), (r2, .inl (K 0, 16, .inl u19.1)), (r3, .inl (K 0, 4, .inl u22.1)), (r4, .inl (K 0, 4, .inl u22.2)), (r5, .inl (K 0, 4, .inl fm)), (r6, .inl (K 1, 4, .inl fi)), (r7, .inl (K 0, 8, .inl u19.2.1)), (r8, .inl (K 0, 8, .inl u19.2.2)), (h0, .inr (2, [.ref hv, .ref hs, .int (nI n), .int mask])), (hv, .inl (K 0, 16, .inl vf)), (hs, .inl (K 0, 4, .inl sf))] _ := hP
          have hD : va_D A [(r0, .inr (0, [.ref r1, .ref r2, .ref r3, .ref r4, .ref r5, .ref r6, .ref r7, .ref r8, .int (nI (grw (hea n fl i) i (decide (opn mask i)) (pthL n mask fl lim i)).length), .int (nI n), .int (nI ((keepL lim (grw (hea n fl i) i (decide (opn mask i)) (pthL n mask fl lim i))).length)), .int ir])), (r1, .inl (K 0, 16, .inl fl)), (r2, .inl (K 0, 16, .inl u19.1)), (r3, .inl (K 0, 4, .inl u22.1)), (r4, .inl (K 0, 4, .inl u22.2)), (r5, .inl (K 0, 4, .inl fm)), (r6, .inl (K 1, 4, .inl fi)), (r7, .inl (K 0, 8, .inl u19.2.1)), (r8, .inl (K 0, 8, .inl u19.2.2)), (h0, .inr (2, [.ref hv, .ref hs, .int (nI n), .int mask])), (hv, .inl (K 0, 16, .inl vf)), (hs, .inl (K 0, 4, .inl sf))] := hD
          have hkp : hol (keepL lim (grw (hea n fl i) i (decide (opn mask i)) (pthL n mask fl lim i))) u22.1 u22.2 := h23
          refine lv_iinc (v := nI (i + 1)) (lv' := [(4, .int (nI (i + 1))), (0, .ref r0), (1, .ref h0), (2, .int xf), (3, .int (nI lim))]) hx hb dX0_messageRead_107 hl (k := 0) rfl (nI_add i 1) (by decide) rfl (fun ls hl => ?_)
          refine lv_goto (tgt := 81) hx hb dX0_messageRead_110 (by decide) ?_
          exact ih4 H locs ls ⟨(nI (grw (hea n fl i) i (decide (opn mask i)) (pthL n mask fl lim i)).length), u19.1, u22.1, u22.2, u19.2.1, u19.2.2, hkp, hP, hD, hS, lv_sub hl [0, 1, 2, 3, 4] rfl⟩
      · exact ⟨ig, fw, (upd fb 0 0), (upd fp 0 0), gb, gp, (fun i hi => by have h : i < 1 := hi; have e : i = 0 := (by omega); subst e; exact ⟨pk_us, pk_us⟩), hP, hD, hS, lv_sub hl [0, 1, 2, 3, 4] rfl⟩
    · skip
      have c2 : ¬ 16 ≤ 16 := fun h9 => c2 ((nI_leI (a := 16) (b := 16) (by omega) (by omega)).mpr h9)
      omega
  · intro t ht ih1 H locs ls hI
    obtain ⟨fr, hh, hP, hD, hS, hl⟩ := hI
    refine lv_iload hx hb dX0_messageRead_11 (lv_at hl 0 rfl) ?_
    refine lv_bipush (v := 16) hx hb dX0_messageRead_13 (by decide) ?_
    refine lv_icmp_ge (tgt := 59) hx hb dX0_messageRead_15 (by decide) (fun c25 => ?_) (fun c25 => ?_)
    · skip
      have c25 : 16 ≤ t := (nI_leI (a := 16) (b := t) (by omega) (by omega)).mp c25
      omega
    · skip
      have c25 : ¬ 16 ≤ t := fun h9 => c25 ((nI_leI (a := 16) (b := t) (by omega) (by omega)).mpr h9)
      refine lv_aload_n hx hb dX0_messageRead_18 rfl (lv_at hl 1 rfl) ?_
      refine va_get (D := D) (ci := 0) (v := .ref r1) (C := RX0) (T := TX0) (N := 12) hx hb hts hi0 hown hK hP 0 rfl rfl 0 (by decide) (hts (.fieldLink RX0 9 "PairedChannels$Reading" "received" "[I") (List.mem_of_getElem? (i := 3) (by decide +kernel))) (fun _ h9 => h9) rfl dX0_messageRead_19 ?_
      refine lv_iload hx hb dX0_messageRead_22 (lv_at hl 0 rfl) ?_
      refine lv_iload_n hx hb dX0_messageRead_24 rfl (lv_at hl 3 rfl) ?_
      refine lv_iload hx hb dX0_messageRead_25 (lv_at hl 0 rfl) ?_
      refine lv_ishr hx hb dX0_messageRead_27 ?_
      refine lv_iconst (v := 1) hx hb dX0_messageRead_28 (by decide) ?_
      refine lv_iand hx hb dX0_messageRead_29 ?_
      refine lv_eqi (bitI xf t) rfl ?_
      refine lv_iconst (v := 1) hx hb dX0_messageRead_30 (by decide) ?_
      refine g_cut (F0 mm 52 ls [.int (if bitI xf t = 1 then (-(vf t)) else vf t), .int (nI t), .ref r1]) (fun hJ => ?_) ?_
      · refine lv_icmp_ne (tgt := 45) hx hb dX0_messageRead_31 (by decide) (fun c26 => ?_) (fun c26 => ?_)
        · skip
          refine lv_aload_n hx hb dX0_messageRead_45 rfl (lv_at hl 2 rfl) ?_
          refine va_get (D := D) (ci := 2) (v := .ref hv) (C := RX2) (T := TX2) (N := 4) hx hb hts hi2 hown hK hP 9 rfl rfl 0 (by decide) (hts (.fieldLink RX0 44 "PairedChannels$Word" "values" "[I") (List.mem_of_getElem? (i := 4) (by decide +kernel))) (fun _ h9 => h9) rfl dX0_messageRead_46 ?_
          refine lv_iload hx hb dX0_messageRead_49 (lv_at hl 0 rfl) ?_
          refine wa_iald hx hb hK hP 10 0 rfl rfl (t) rfl (by omega) (by decide) dX0_messageRead_51 ?_
          refine lv_eqi ((if bitI xf t = 1 then (-(vf t)) else vf t)) (if_neg c26).symm ?_
          exact hJ
        · skip
          refine lv_aload_n hx hb dX0_messageRead_34 rfl (lv_at hl 2 rfl) ?_
          refine va_get (D := D) (ci := 2) (v := .ref hv) (C := RX2) (T := TX2) (N := 4) hx hb hts hi2 hown hK hP 9 rfl rfl 0 (by decide) (hts (.fieldLink RX0 44 "PairedChannels$Word" "values" "[I") (List.mem_of_getElem? (i := 4) (by decide +kernel))) (fun _ h9 => h9) rfl dX0_messageRead_35 ?_
          refine lv_iload hx hb dX0_messageRead_38 (lv_at hl 0 rfl) ?_
          refine wa_iald hx hb hK hP 10 0 rfl rfl (t) rfl (by omega) (by decide) dX0_messageRead_40 ?_
          refine lv_ineg hx hb dX0_messageRead_41 ?_
          refine lv_goto (tgt := 52) hx hb dX0_messageRead_42 (by decide) ?_
          refine lv_eqi ((if bitI xf t = 1 then (-(vf t)) else vf t)) (if_pos c26).symm ?_
          exact hJ
      · skip
        refine wa_iast (x := (if bitI xf t = 1 then (-(vf t)) else vf t)) hx hb hK hP hD hS 1 0 rfl rfl (t) rfl (by omega) (by decide) dX0_messageRead_52 (fun H locs hP hD hS => ?_)
        have hP : va_P D vwCl [(r0, .inr (0, [.ref r1, .ref r2, .ref r3, .ref r4, .ref r5, .ref r6, .ref r7, .ref r8, .int ig, .int (nI n), .int ip, .int ir])), (r1, .inl (K 0, 16, .inl (upd fr t (if bitI xf t = 1 then (-(vf t)) else vf t)))), (r2, .inl (K 0, 16, .inl fw)), (r3, .inl (K 0, 4, .inl fb)), (r4, .inl (K 0, 4, .inl fp)), (r5, .inl (K 0, 4, .inl fm)), (r6, .inl (K 1, 4, .inl fi)), (r7, .inl (K 0, 8, .inl gb)), (r8, .inl (K 0, 8, .inl gp)), (h0, .inr (2, [.ref hv, .ref hs, .int (nI n), .int mask])), (hv, .inl (K 0, 16, .inl vf)), (hs, .inl (K 0, 4, .inl sf))] _ := hP
        have hD : va_D A [(r0, .inr (0, [.ref r1, .ref r2, .ref r3, .ref r4, .ref r5, .ref r6, .ref r7, .ref r8, .int ig, .int (nI n), .int ip, .int ir])), (r1, .inl (K 0, 16, .inl (upd fr t (if bitI xf t = 1 then (-(vf t)) else vf t)))), (r2, .inl (K 0, 16, .inl fw)), (r3, .inl (K 0, 4, .inl fb)), (r4, .inl (K 0, 4, .inl fp)), (r5, .inl (K 0, 4, .inl fm)), (r6, .inl (K 1, 4, .inl fi)), (r7, .inl (K 0, 8, .inl gb)), (r8, .inl (K 0, 8, .inl gp)), (h0, .inr (2, [.ref hv, .ref hs, .int (nI n), .int mask])), (hv, .inl (K 0, 16, .inl vf)), (hs, .inl (K 0, 4, .inl sf))] := hD
        refine lv_iinc (v := nI (t + 1)) (lv' := [(4, .int (nI (t + 1))), (0, .ref r0), (1, .ref h0), (2, .int xf), (3, .int (nI lim))]) hx hb dX0_messageRead_53 hl (k := 0) rfl (nI_add t 1) (by decide) rfl (fun ls hl => ?_)
        refine lv_goto (tgt := 11) hx hb dX0_messageRead_56 (by decide) ?_
        exact ih1 H locs ls ⟨(upd fr t (if bitI xf t = 1 then (-(vf t)) else vf t)), (fun i hi => by by_cases e : i = t; subst e; exact pk_us; rw [pk_un e]; exact hh i (by omega)), hP, hD, hS, lv_sub hl [0, 1, 2, 3, 4] rfl⟩
  · exact ⟨fr, (fun i hi => absurd hi (Nat.not_lt_zero i)), hP, hD, hS, lv_sub hl [0, 1, 2, 3, 4] rfl⟩

set_option maxHeartbeats 4000000 in
set_option maxRecDepth 100000 in
theorem c_X0_heardByFirst (l : Launch) (D : va_G) (K : Nat → ClassId) (r0 : Nat) (r1 : Nat) (r2 : Nat) (r3 : Nat) (r4 : Nat) (r5 : Nat) (r6 : Nat) (r7 : Nat) (r8 : Nat) (n : Nat) (ig : Int32) (ip : Int32) (ir : Int32) (pl : Nat) (fr : Nat → Int32) (fw : Nat → Int32) (fb : Nat → Int32) (hn : okN n) (hp : pl < n) : MWi l yX0_heardByFirst wsX0_heardByFirst ({ frames := 2, cells := 0, slots := 0, locals := 65 } : Room) D (gTy K) [.ref r0, .int (nI pl)] [(r0, .inr (0, [.ref r1, .ref r2, .ref r3, .ref r4, .ref r5, .ref r6, .ref r7, .ref r8, .int ig, .int (nI n), .int ip, .int ir])), (r1, .inl (K 0, 16, .inl fr)), (r2, .inl (K 0, 16, .inl fw)), (r3, .inl (K 0, 4, .inl fb))] (fun (u : Nat → Int32) => [(r0, .inr (0, [.ref r1, .ref r2, .ref r3, .ref r4, .ref r5, .ref r6, .ref r7, .ref r8, .int ig, .int (nI n), .int ip, .int ir])), (r1, .inl (K 0, 16, .inl fr)), (r2, .inl (K 0, 16, .inl u)), (r3, .inl (K 0, 4, .inl fb))]) (fun r (u : Nat → Int32) => r = hea n fr pl (fb 0)) 0 0 := by
  refine g_ofW (Qc := fun A => va_Qi _ (gB D (gTy K) A _) A) (cc := cX0_heardByFirst) (maxL := 2) (ret := (some .int)) (own := RX0) (by decide) rfl rfl (Nat.le_of_ble_eq_true rfl) ?_
  intro pp ee s mm below meth cc A hfx hnm hK hP hD hE hS hA ls hl
  obtain ⟨hx, hb, hr, hml, hown, hts, hlk⟩ := hfx
  have hl : lv_has ls 2 [(0, .ref r0), (1, .int (nI pl))] := hl
  have hi0 : ∀ w ∈ u_ws RX0 TX0 12, w ∈ wsX0_heardByFirst := fun w h => List.mem_cons_of_mem _ (List.mem_append_right _ (h))
  refine lv_aload_n hx hb dX0_heardByFirst_0 rfl (lv_at hl 0 rfl) ?_
  refine lv_aload_n hx hb dX0_heardByFirst_1 rfl (lv_at hl 0 rfl) ?_
  refine va_get (D := D) (ci := 0) (v := .ref r3) (C := RX0) (T := TX0) (N := 12) hx hb hts hi0 hown hK hP 0 rfl rfl 2 (by decide) (hts (.fieldLink RX0 18 "PairedChannels$Reading" "bits" "[I") (List.mem_of_getElem? (i := 1) (by decide +kernel))) (fun _ h9 => h9) rfl dX0_heardByFirst_2 ?_
  refine lv_iconst (v := 0) hx hb dX0_heardByFirst_5 (by decide) ?_
  refine wa_iald hx hb hK hP 3 0 rfl rfl (0) rfl (by omega) (by decide) dX0_heardByFirst_6 ?_
  refine lv_iload_n hx hb dX0_heardByFirst_7 rfl (lv_at hl 1 rfl) ?_
  refine gW_i (wr := [(r3, .inl (K 0, 4, .inl fb))]) (W2 := (fun (u : Nat → Int32) => [(r0, .inr (0, [.ref r1, .ref r2, .ref r3, .ref r4, .ref r5, .ref r6, .ref r7, .ref r8, .int ig, .int (nI n), .int ip, .int ir])), (r1, .inl (K 0, 16, .inl fr)), (r2, .inl (K 0, 16, .inl u)), (r3, .inl (K 0, 4, .inl fb))])) (va_runV (As := [.int (fb 0), .int (nI pl)]) (rest := []) ⟨hx, hb, hml, hown, hts⟩ ((c_X0_hear l D K r0 r1 r2 r3 r4 r5 r6 r7 r8 n ig ip ir (fb 0) pl fr fw (by first | assumption | omega) (by first | assumption | omega)) _) (cwV 2 hts gX0_heardByFirst_X0_hear rfl rfl rfl (by decide +kernel) ⟨Nat.le_of_ble_eq_true rfl, Nat.le_of_ble_eq_true rfl⟩) (gW_preV hE hS hK hP hD hA [0, 1, 2] rfl (by decide) 0 rfl rfl rfl) rfl rfl hl.1 rfl (lv_room (Nat.le_of_ble_eq_true rfl)) dX0_heardByFirst_8 ⟨Nat.le_of_ble_eq_true rfl, Nat.le_of_ble_eq_true rfl⟩) hS hP hD hA [0, 1, 2] [3] [1, 2, 3, 0] rfl rfl (by decide) (by decide) (by decide) (fun _ => rfl) (fun rv3 u1 H locs h2 hP hD hS => ?_)
  have hP : va_P D vwCl [(r0, .inr (0, [.ref r1, .ref r2, .ref r3, .ref r4, .ref r5, .ref r6, .ref r7, .ref r8, .int ig, .int (nI n), .int ip, .int ir])), (r1, .inl (K 0, 16, .inl fr)), (r2, .inl (K 0, 16, .inl u1)), (r3, .inl (K 0, 4, .inl fb))] _ := hP
  have hD : va_D A [(r0, .inr (0, [.ref r1, .ref r2, .ref r3, .ref r4, .ref r5, .ref r6, .ref r7, .ref r8, .int ig, .int (nI n), .int ip, .int ir])), (r1, .inl (K 0, 16, .inl fr)), (r2, .inl (K 0, 16, .inl u1)), (r3, .inl (K 0, 4, .inl fb))] := hD
  have h2 : rv3 = hea n fr pl (fb 0) := h2
  exact gW_iret (v := rv3) u1 hx hb hr hlk (rfl) hK hP hD hS (h2) dX0_heardByFirst_11

set_option maxHeartbeats 4000000 in
set_option maxRecDepth 100000 in
theorem c_X0_rightPaths (l : Launch) (D : va_G) (K : Nat → ClassId) (r0 : Nat) (r1 : Nat) (r2 : Nat) (r3 : Nat) (r4 : Nat) (r5 : Nat) (r6 : Nat) (r7 : Nat) (r8 : Nat) (n : Nat) (ig : Int32) (ir : Int32) (mask : Int32) (sf : Nat → Int32) (P : PL) (fi : Nat → Int32) (hP4 : P.length ≤ 4) (hfi : ∀ i, i < P.length → fi i = (if rgt n mask sf (msP n mask P i) then 1 else 0)) : MRi l yX0_rightPaths wsX0_rightPaths ({ frames := 0, cells := 0, slots := 0, locals := 0 } : Room) D (gTy K) [.ref r0] [(r0, .inr (0, [.ref r1, .ref r2, .ref r3, .ref r4, .ref r5, .ref r6, .ref r7, .ref r8, .int ig, .int (nI n), .int (nI P.length), .int ir])), (r6, .inl (K 1, 4, .inl fi))] (fun r => r = nI (rgC n mask sf P P.length)) := by
  refine g_ofR (cc := cX0_rightPaths) (maxL := 3) (ret := (some .int)) (own := RX0) (by decide) rfl rfl (Nat.le_of_ble_eq_true rfl) ?_
  intro pp ee s mm below meth cc hfx hK hP hE hS ls hl
  obtain ⟨hx, hb, hr, hml, hown, hts, hlk⟩ := hfx
  have hl : lv_has ls 3 [(0, .ref r0)] := hl
  have hi0 : ∀ w ∈ u_ws RX0 TX0 12, w ∈ wsX0_rightPaths := fun w h => List.mem_cons_of_mem _ (List.mem_append_right _ (h))
  refine lv_iconst (v := 0) hx hb dX0_rightPaths_0 (by decide) ?_
  refine lv_istore_n (lv' := [(1, .int 0), (0, .ref r0)]) hx hb dX0_rightPaths_1 rfl hl (by decide) rfl (fun ls hl => ?_)
  refine lv_iconst (v := 0) hx hb dX0_rightPaths_2 (by decide) ?_
  refine lv_istore_n (lv' := [(2, .int 0), (1, .int 0), (0, .ref r0)]) hx hb dX0_rightPaths_3 rfl hl (by decide) rfl (fun ls hl => ?_)
  refine g_loopW (st := []) (N := P.length) (fun t H locs ls => va_P D vwCl [(r0, .inr (0, [.ref r1, .ref r2, .ref r3, .ref r4, .ref r5, .ref r6, .ref r7, .ref r8, .int ig, .int (nI n), .int (nI P.length), .int ir])), (r6, .inl (K 1, 4, .inl fi))] H ∧ va_S gNo s.heap H locs ∧ lv_has ls 3 [(2, .int (nI t)), (1, .int (nI (rgC n mask sf P t))), (0, .ref r0)]) 0 (Nat.zero_le _) ?_ ?_ ?_
  · intro H locs ls hI
    obtain ⟨hP, hS, hl⟩ := hI
    refine lv_iload_n hx hb dX0_rightPaths_4 rfl (lv_at hl 0 rfl) ?_
    refine lv_aload_n hx hb dX0_rightPaths_5 rfl (lv_at hl 2 rfl) ?_
    refine va_get (D := D) (ci := 0) (v := .int (nI P.length)) (C := RX0) (T := TX0) (N := 12) hx hb hts hi0 hown hK hP 0 rfl rfl 10 (by decide) (hts (.fieldLink RX0 47 "PairedChannels$Reading" "paths" "I") (List.mem_of_getElem? (i := 1) (by decide +kernel))) (fun _ h9 => h9) rfl dX0_rightPaths_6 ?_
    refine lv_icmp_ge (tgt := 35) hx hb dX0_rightPaths_9 (by decide) (fun c2 => ?_) (fun c2 => ?_)
    · skip
      have c2 : P.length ≤ P.length := (nI_leI (a := P.length) (b := P.length) (by omega) (by omega)).mp c2
      refine lv_iload_n hx hb dX0_rightPaths_35 rfl (lv_at hl 1 rfl) ?_
      exact gR_iret (v := nI (rgC n mask sf P P.length)) hx hb hr hlk (rfl) hS (rfl) dX0_rightPaths_36
    · skip
      have c2 : ¬ P.length ≤ P.length := fun h9 => c2 ((nI_leI (a := P.length) (b := P.length) (by omega) (by omega)).mpr h9)
      omega
  · intro t ht ih1 H locs ls hI
    obtain ⟨hP, hS, hl⟩ := hI
    refine lv_iload_n hx hb dX0_rightPaths_4 rfl (lv_at hl 0 rfl) ?_
    refine lv_aload_n hx hb dX0_rightPaths_5 rfl (lv_at hl 2 rfl) ?_
    refine va_get (D := D) (ci := 0) (v := .int (nI P.length)) (C := RX0) (T := TX0) (N := 12) hx hb hts hi0 hown hK hP 0 rfl rfl 10 (by decide) (hts (.fieldLink RX0 47 "PairedChannels$Reading" "paths" "I") (List.mem_of_getElem? (i := 1) (by decide +kernel))) (fun _ h9 => h9) rfl dX0_rightPaths_6 ?_
    refine lv_icmp_ge (tgt := 35) hx hb dX0_rightPaths_9 (by decide) (fun c3 => ?_) (fun c3 => ?_)
    · skip
      have c3 : P.length ≤ t := (nI_leI (a := P.length) (b := t) (by omega) (by omega)).mp c3
      omega
    · skip
      have c3 : ¬ P.length ≤ t := fun h9 => c3 ((nI_leI (a := P.length) (b := t) (by omega) (by omega)).mpr h9)
      refine lv_iload_n hx hb dX0_rightPaths_12 rfl (lv_at hl 1 rfl) ?_
      refine lv_aload_n hx hb dX0_rightPaths_13 rfl (lv_at hl 2 rfl) ?_
      refine va_get (D := D) (ci := 0) (v := .ref r6) (C := RX0) (T := TX0) (N := 12) hx hb hts hi0 hown hK hP 0 rfl rfl 5 (by decide) (hts (.fieldLink RX0 27 "PairedChannels$Reading" "isRight" "[Z") (List.mem_of_getElem? (i := 2) (by decide +kernel))) (fun _ h9 => h9) rfl dX0_rightPaths_14 ?_
      refine lv_iload_n hx hb dX0_rightPaths_17 rfl (lv_at hl 0 rfl) ?_
      refine wa_zald hx hb hK hP 1 1 rfl rfl (t) rfl (by omega) (by decide) dX0_rightPaths_18 ?_
      refine lv_eqi ((if rgt n mask sf (msP n mask P t) then 1 else 0)) (hfi t ht) ?_
      refine g_cut (F0 mm 27 ls [.int (if rgt n mask sf (msP n mask P t) then 1 else 0), .int (nI (rgC n mask sf P t))]) (fun hJ => ?_) ?_
      · refine lv_if_eq (tgt := 26) hx hb dX0_rightPaths_19 (by decide) (fun c4 => ?_) (fun c4 => ?_)
        · skip
          have c4 : ¬ (rgt n mask sf (msP n mask P t)) := b_eq0 c4
          refine lv_iconst (v := 0) hx hb dX0_rightPaths_26 (by decide) ?_
          refine lv_eqi ((if rgt n mask sf (msP n mask P t) then 1 else 0)) (if_neg c4).symm ?_
          exact hJ
        · skip
          have c4 : rgt n mask sf (msP n mask P t) := b_ne0 c4
          refine lv_iconst (v := 1) hx hb dX0_rightPaths_22 (by decide) ?_
          refine lv_goto (tgt := 27) hx hb dX0_rightPaths_23 (by decide) ?_
          refine lv_eqi ((if rgt n mask sf (msP n mask P t) then 1 else 0)) (if_pos c4).symm ?_
          exact hJ
      · skip
        refine lv_iadd hx hb dX0_rightPaths_27 ?_
        refine lv_istore_n (lv' := [(1, .int (nI (rgC n mask sf P t) + (if rgt n mask sf (msP n mask P t) then 1 else 0))), (2, .int (nI t)), (0, .ref r0)]) hx hb dX0_rightPaths_28 rfl hl (by decide) rfl (fun ls hl => ?_)
        refine lv_iinc (v := nI (t + 1)) (lv' := [(2, .int (nI (t + 1))), (1, .int (nI (rgC n mask sf P t) + (if rgt n mask sf (msP n mask P t) then 1 else 0))), (0, .ref r0)]) hx hb dX0_rightPaths_29 hl (k := 1) rfl (nI_add t 1) (by decide) rfl (fun ls hl => ?_)
        refine lv_goto (tgt := 4) hx hb dX0_rightPaths_32 (by decide) ?_
        have e9 : (nI (rgC n mask sf P t) + (if rgt n mask sf (msP n mask P t) then 1 else 0)) = (nI (rgC n mask sf P (t + 1))) := nI_ite _ _
        rw [e9] at hl
        exact ih1 H locs ls ⟨hP, hS, lv_sub hl [0, 1, 2] rfl⟩
  · exact ⟨hP, hS, lv_sub hl [0, 1, 2] rfl⟩
