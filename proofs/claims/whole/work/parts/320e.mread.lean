set_option maxHeartbeats 4000000 in
set_option maxRecDepth 100000 in
theorem c_X4_readMessage (l : Launch) (D : va_G) (K : Nat → ClassId) (m0 : Nat) (m1 : Nat) (m2 : Nat) (m3 : Nat) (m4 : Nat) (m5 : Nat) (m6 : Nat) (m7 : Nat) (m8 : Nat) (m9 : Nat) (m10 : Nat) (th : Int32) (sy : Nat) (ly : Nat) (py : Nat) (ay : Nat) (iw : Bool) (ty : Nat) (hy : Int64) (n : Nat) (mask : Int32) (vf : Nat → Int32) (sf : Nat → Int32) (fw : Nat → Int32) (fb : Nat → Int32) (fp : Nat → Int32) (gb : Nat → Int32) (gp : Nat → Int32) (hn : okN n) (hsf : okS sf) : MWi l yX4_readMessage wsX4_readMessage ({ frames := 7, cells := 0, slots := 0, locals := 160 } : Room) D (gTy K) [.ref m0] [(m0, .inr (4, [.int th, .ref m1, .ref m2, .ref m3, .int (nI sy), .ref m4, .int (nI ly), .ref m5, .ref m6, .int (nI py), .ref m7, .ref m8, .ref m9, .int (nI ay), .int (if iw = true then 1 else 0), .ref m10, .int (nI ty), .long hy])), (m1, .inl (K 0, 22, .inl (mst n mask vf sf))), (m9, .inl (K 0, 16, .inl fw)), (m5, .inl (K 0, 8, .inl fb)), (m6, .inl (K 0, 8, .inl fp)), (m7, .inl (K 0, 8, .inl gb)), (m8, .inl (K 0, 8, .inl gp))] (fun (u : (Nat → Int32) × (Nat → Int32) × (Nat → Int32) × (Nat → Int32) × (Nat → Int32)) => [(m0, .inr (4, [.int th, .ref m1, .ref m2, .ref m3, .int (nI sy), .ref m4, .int (nI ly), .ref m5, .ref m6, .int (nI ((rdS n mask vf sf).length)), .ref m7, .ref m8, .ref m9, .int (nI ay), .int (if iw = true then 1 else 0), .ref m10, .int (nI ty), .long hy])), (m1, .inl (K 0, 22, .inl (mst n mask vf sf))), (m9, .inl (K 0, 16, .inl u.1)), (m5, .inl (K 0, 8, .inl u.2.1)), (m6, .inl (K 0, 8, .inl u.2.2.1)), (m7, .inl (K 0, 8, .inl u.2.2.2.1)), (m8, .inl (K 0, 8, .inl u.2.2.2.2))]) (fun r (u : (Nat → Int32) × (Nat → Int32) × (Nat → Int32) × (Nat → Int32) × (Nat → Int32)) => r = rdN n mask vf sf ∧ hol (rdS n mask vf sf) u.2.1 u.2.2.1) 0 0 := by
  refine g_ofW (Qc := fun A => va_Qi _ (gB D (gTy K) A _) A) (cc := cX4_readMessage) (maxL := 2) (ret := (some .int)) (own := RX4) (by decide) rfl rfl (Nat.le_of_ble_eq_true rfl) ?_
  intro pp ee s mm below meth cc A hfx hnm hK hP hD hE hS hA ls hl
  obtain ⟨hx, hb, hr, hml, hown, hts, hlk⟩ := hfx
  have hl : lv_has ls 2 [(0, .ref m0)] := hl
  have hi4 : ∀ w ∈ u_ws RX4 TX4 18, w ∈ wsX4_readMessage := fun w h => List.mem_cons_of_mem _ (List.mem_append_right _ (h))
  have hnl := hn.le
  have hll := rdL_len (n := n) (mask := mask) (vf := vf) (okS.l hsf).2.1
  have hl44 := (okS.l hsf).2.2
  refine lv_aload_n hx hb dX4_readMessage_0 rfl (lv_at hl 0 rfl) ?_
  refine gW_i (wr := []) (W2 := (fun (u : (Nat → Int32) × (Nat → Int32) × (Nat → Int32) × (Nat → Int32) × (Nat → Int32)) => [(m0, .inr (4, [.int th, .ref m1, .ref m2, .ref m3, .int (nI sy), .ref m4, .int (nI ly), .ref m5, .ref m6, .int (nI ((rdS n mask vf sf).length)), .ref m7, .ref m8, .ref m9, .int (nI ay), .int (if iw = true then 1 else 0), .ref m10, .int (nI ty), .long hy])), (m1, .inl (K 0, 22, .inl (mst n mask vf sf))), (m9, .inl (K 0, 16, .inl u.1)), (m5, .inl (K 0, 8, .inl u.2.1)), (m6, .inl (K 0, 8, .inl u.2.2.1)), (m7, .inl (K 0, 8, .inl u.2.2.2.1)), (m8, .inl (K 0, 8, .inl u.2.2.2.2))])) (va_runV (As := []) (rest := []) ⟨hx, hb, hml, hown, hts⟩ ((c_X4_readPath l D K m0 m1 m2 m3 m4 m5 m6 m7 m8 m9 m10 th sy ly py ay iw ty hy n mask vf sf fw fb fp gb gp (by first | assumption | omega) (by first | assumption | omega)) _) (cwV 0 hts gX4_readMessage_X4_readPath rfl rfl rfl (by decide +kernel) ⟨Nat.le_of_ble_eq_true rfl, Nat.le_of_ble_eq_true rfl⟩) (gW_preV hE hS hK hP hD hA [0, 1, 2, 3, 4, 5, 6] rfl (by decide) 0 rfl rfl rfl) rfl rfl hl.1 rfl (lv_room (Nat.le_of_ble_eq_true rfl)) dX4_readMessage_1 ⟨Nat.le_of_ble_eq_true rfl, Nat.le_of_ble_eq_true rfl⟩) hS hP hD hA [0, 1, 2, 3, 4, 5, 6] [] [0, 1, 2, 3, 4, 5, 6] rfl rfl (by decide) (by decide) (by decide) (fun _ => rfl) (fun rv3 u1 H locs h2 hP hD hS => ?_)
  have hP : va_P D vwCl [(m0, .inr (4, [.int th, .ref m1, .ref m2, .ref m3, .int (nI sy), .ref m4, .int (nI ly), .ref m5, .ref m6, .int (nI ((rdS n mask vf sf).length)), .ref m7, .ref m8, .ref m9, .int (nI ay), .int (if iw = true then 1 else 0), .ref m10, .int (nI ty), .long hy])), (m1, .inl (K 0, 22, .inl (mst n mask vf sf))), (m9, .inl (K 0, 16, .inl u1.1)), (m5, .inl (K 0, 8, .inl u1.2.1)), (m6, .inl (K 0, 8, .inl u1.2.2.1)), (m7, .inl (K 0, 8, .inl u1.2.2.2.1)), (m8, .inl (K 0, 8, .inl u1.2.2.2.2))] _ := hP
  have hD : va_D A [(m0, .inr (4, [.int th, .ref m1, .ref m2, .ref m3, .int (nI sy), .ref m4, .int (nI ly), .ref m5, .ref m6, .int (nI ((rdS n mask vf sf).length)), .ref m7, .ref m8, .ref m9, .int (nI ay), .int (if iw = true then 1 else 0), .ref m10, .int (nI ty), .long hy])), (m1, .inl (K 0, 22, .inl (mst n mask vf sf))), (m9, .inl (K 0, 16, .inl u1.1)), (m5, .inl (K 0, 8, .inl u1.2.1)), (m6, .inl (K 0, 8, .inl u1.2.2.1)), (m7, .inl (K 0, 8, .inl u1.2.2.2.1)), (m8, .inl (K 0, 8, .inl u1.2.2.2.2))] := hD
  have hrd : rv3 = rrk n mask sf (rdS n mask vf sf) (rdS n mask vf sf).length ∧ hol (rdS n mask vf sf) u1.2.1 u1.2.2.1 := h2
  have hll : 1 ≤ (rdS n mask vf sf).length ∧ (rdS n mask vf sf).length ≤ lmN sf := hll
  by_cases hrr : fstX n mask sf (rdS n mask vf sf) (rdS n mask vf sf).length < (rdS n mask vf sf).length
  · skip
    refine lv_eqi (nI (fstX n mask sf (rdS n mask vf sf) (rdS n mask vf sf).length)) (hrd.1.trans (rrk_p hrr)) ?_
    refine lv_istore_n (lv' := [(1, .int (nI (fstX n mask sf (rdS n mask vf sf) (rdS n mask vf sf).length))), (0, .ref m0)]) hx hb dX4_readMessage_4 rfl hl (by decide) rfl (fun ls hl => ?_)
    refine lv_iload_n hx hb dX4_readMessage_5 rfl (lv_at hl 0 rfl) ?_
    refine lv_iconst (v := (-1)) hx hb dX4_readMessage_6 (by decide) ?_
    refine lv_icmp_ne (tgt := 14) hx hb dX4_readMessage_7 (by decide) (fun c7 => ?_) (fun c7 => ?_)
    · skip
      refine lv_aload_n hx hb dX4_readMessage_14 rfl (lv_at hl 1 rfl) ?_
      refine lv_aload_n hx hb dX4_readMessage_15 rfl (lv_at hl 1 rfl) ?_
      refine va_get (D := D) (ci := 4) (v := .ref m5) (C := RX4) (T := TX4) (N := 18) hx hb hts hi4 hown hK hP 0 rfl rfl 7 (by decide) (hts (.fieldLink RX4 22 "PairedChannelsModel" "bits" "[I") (List.mem_of_getElem? (i := 1) (by decide +kernel))) (fun _ h9 => h9) rfl dX4_readMessage_16 ?_
      refine lv_iload_n hx hb dX4_readMessage_19 rfl (lv_at hl 0 rfl) ?_
      refine wa_iald hx hb hK hP 3 0 rfl rfl (fstX n mask sf (rdS n mask vf sf) (rdS n mask vf sf).length) rfl (by omega) (by decide) dX4_readMessage_20 ?_
      refine lv_eqi ((atL (rdS n mask vf sf) (fstX n mask sf (rdS n mask vf sf) (rdS n mask vf sf).length)).1) ((hrd.2 _ hrr).1) ?_
      refine gR_i (va_runV (As := [.int ((atL (rdS n mask vf sf) (fstX n mask sf (rdS n mask vf sf) (rdS n mask vf sf).length)).1)]) (rest := []) ⟨hx, hb, hml, hown, hts⟩ (c_X4_messageOf l D K m0 m1 m2 m3 m4 m5 m6 m7 m8 m9 m10 th sy ly ((rdS n mask vf sf).length) ay iw ty hy n mask vf sf ((atL (rdS n mask vf sf) (fstX n mask sf (rdS n mask vf sf) (rdS n mask vf sf).length)).1) (by first | assumption | omega)) (cwV 1 hts gX4_readMessage_X4_messageOf rfl rfl rfl (by decide +kernel) ⟨Nat.le_of_ble_eq_true rfl, Nat.le_of_ble_eq_true rfl⟩) (gR_preV hE hS hK hP [0, 1] rfl 0 rfl rfl rfl) rfl rfl hl.1 rfl (lv_room (Nat.le_of_ble_eq_true rfl)) dX4_readMessage_21 ⟨Nat.le_of_ble_eq_true rfl, Nat.le_of_ble_eq_true rfl⟩) hS hP (fun rv6 H locs h5 hP hS => ?_)
      have h5 : rv6 = mso mask ((atL (rdS n mask vf sf) (fstX n mask sf (rdS n mask vf sf) (rdS n mask vf sf).length)).1) n := h5
      subst h5
      exact gW_iret (v := mso mask ((atL (rdS n mask vf sf) (fstX n mask sf (rdS n mask vf sf) (rdS n mask vf sf).length)).1) n) (u1.1, u1.2.1, u1.2.2.1, u1.2.2.2.1, u1.2.2.2.2) hx hb hr hlk (rfl) hK hP hD hS (⟨by unfold rdN rdM; first | (rw [if_pos hrr]; rfl) | rw [if_neg hrr], hrd.2⟩) dX4_readMessage_24
    · skip
      exact absurd c7 (nI_m1 (by omega))
  · skip
    refine lv_eqi (-1) (hrd.1.trans (rrk_n hrr)) ?_
    refine lv_istore_n (lv' := [(1, .int (-1)), (0, .ref m0)]) hx hb dX4_readMessage_4 rfl hl (by decide) rfl (fun ls hl => ?_)
    refine lv_iload_n hx hb dX4_readMessage_5 rfl (lv_at hl 0 rfl) ?_
    refine lv_iconst (v := (-1)) hx hb dX4_readMessage_6 (by decide) ?_
    refine lv_icmp_ne (tgt := 14) hx hb dX4_readMessage_7 (by decide) (fun c7 => ?_) (fun c7 => ?_)
    · skip
      exact absurd rfl c7
    · skip
      refine lv_iconst (v := (-1)) hx hb dX4_readMessage_10 (by decide) ?_
      refine lv_goto (tgt := 24) hx hb dX4_readMessage_11 (by decide) ?_
      exact gW_iret (v := (-1)) (u1.1, u1.2.1, u1.2.2.1, u1.2.2.2.1, u1.2.2.2.2) hx hb hr hlk (rfl) hK hP hD hS (⟨by unfold rdN rdM; first | (rw [if_pos hrr]; rfl) | rw [if_neg hrr], hrd.2⟩) dX4_readMessage_24

set_option maxHeartbeats 4000000 in
set_option maxRecDepth 100000 in
theorem c_X4_differing (l : Launch) (D : va_G) (K : Nat → ClassId) (m0 : Nat) (m1 : Nat) (m2 : Nat) (m3 : Nat) (m4 : Nat) (m5 : Nat) (m6 : Nat) (m7 : Nat) (m8 : Nat) (m9 : Nat) (m10 : Nat) (th : Int32) (sy : Nat) (ly : Nat) (py : Nat) (ay : Nat) (iw : Bool) (ty : Nat) (hy : Int64) (n : Nat) (mask : Int32) (vf : Nat → Int32) (sf : Nat → Int32) (x : Int32) (hn : okN n) : MRi l yX4_differing wsX4_differing ({ frames := 0, cells := 0, slots := 0, locals := 0 } : Room) D (gTy K) [.ref m0, .int x] [(m0, .inr (4, [.int th, .ref m1, .ref m2, .ref m3, .int (nI sy), .ref m4, .int (nI ly), .ref m5, .ref m6, .int (nI py), .ref m7, .ref m8, .ref m9, .int (nI ay), .int (if iw = true then 1 else 0), .ref m10, .int (nI ty), .long hy])), (m1, .inl (K 0, 22, .inl (mst n mask vf sf)))] (fun r => r = nI (difS x vf n)) := by
  refine g_ofR (cc := cX4_differing) (maxL := 4) (ret := (some .int)) (own := RX4) (by decide) rfl rfl (Nat.le_of_ble_eq_true rfl) ?_
  intro pp ee s mm below meth cc hfx hK hP hE hS ls hl
  obtain ⟨hx, hb, hr, hml, hown, hts, hlk⟩ := hfx
  have hl : lv_has ls 4 [(0, .ref m0), (1, .int x)] := hl
  have hi4 : ∀ w ∈ u_ws RX4 TX4 18, w ∈ wsX4_differing := fun w h => List.mem_cons_of_mem _ (List.mem_append_right _ (h))
  have hnl := hn.le
  refine lv_iconst (v := 0) hx hb dX4_differing_0 (by decide) ?_
  refine lv_istore_n (lv' := [(2, .int 0), (0, .ref m0), (1, .int x)]) hx hb dX4_differing_1 rfl hl (by decide) rfl (fun ls hl => ?_)
  refine lv_iconst (v := 0) hx hb dX4_differing_2 (by decide) ?_
  refine lv_istore_n (lv' := [(3, .int 0), (2, .int 0), (0, .ref m0), (1, .int x)]) hx hb dX4_differing_3 rfl hl (by decide) rfl (fun ls hl => ?_)
  refine g_loopW (st := []) (N := n) (fun i H locs ls => va_P D vwCl [(m0, .inr (4, [.int th, .ref m1, .ref m2, .ref m3, .int (nI sy), .ref m4, .int (nI ly), .ref m5, .ref m6, .int (nI py), .ref m7, .ref m8, .ref m9, .int (nI ay), .int (if iw = true then 1 else 0), .ref m10, .int (nI ty), .long hy])), (m1, .inl (K 0, 22, .inl (mst n mask vf sf)))] H ∧ va_S gNo s.heap H locs ∧ lv_has ls 4 [(3, .int (nI i)), (2, .int (nI (difS x vf i))), (0, .ref m0), (1, .int x)]) 0 (Nat.zero_le _) ?_ ?_ ?_
  · intro H locs ls hI
    obtain ⟨hP, hS, hl⟩ := hI
    refine lv_iload_n hx hb dX4_differing_4 rfl (lv_at hl 0 rfl) ?_
    refine lv_aload_n hx hb dX4_differing_5 rfl (lv_at hl 2 rfl) ?_
    refine va_get (D := D) (ci := 4) (v := .ref m1) (C := RX4) (T := TX4) (N := 18) hx hb hts hi4 hown hK hP 0 rfl rfl 1 (by decide) (hts (.fieldLink RX4 7 "PairedChannelsModel" "s" "[I") (List.mem_of_getElem? (i := 1) (by decide +kernel))) (fun _ h9 => h9) rfl dX4_differing_6 ?_
    refine lv_iconst (v := 0) hx hb dX4_differing_9 (by decide) ?_
    refine wa_iald hx hb hK hP 1 0 rfl rfl (0) rfl (by omega) (by decide) dX4_differing_10 ?_
    refine lv_eqi (nI n) (rfl) ?_
    refine lv_icmp_ge (tgt := 69) hx hb dX4_differing_11 (by decide) (fun c2 => ?_) (fun c2 => ?_)
    · skip
      have c2 : n ≤ n := (nI_leI (a := n) (b := n) (by omega) (by omega)).mp c2
      refine lv_iload_n hx hb dX4_differing_69 rfl (lv_at hl 1 rfl) ?_
      exact gR_iret (v := nI (difS x vf n)) hx hb hr hlk (rfl) hS (rfl) dX4_differing_70
    · skip
      have c2 : ¬ n ≤ n := fun h9 => c2 ((nI_leI (a := n) (b := n) (by omega) (by omega)).mpr h9)
      omega
  · intro i hi ih1 H locs ls hI
    obtain ⟨hP, hS, hl⟩ := hI
    have hdi := difS_le x vf i
    refine lv_iload_n hx hb dX4_differing_4 rfl (lv_at hl 0 rfl) ?_
    refine lv_aload_n hx hb dX4_differing_5 rfl (lv_at hl 2 rfl) ?_
    refine va_get (D := D) (ci := 4) (v := .ref m1) (C := RX4) (T := TX4) (N := 18) hx hb hts hi4 hown hK hP 0 rfl rfl 1 (by decide) (hts (.fieldLink RX4 7 "PairedChannelsModel" "s" "[I") (List.mem_of_getElem? (i := 1) (by decide +kernel))) (fun _ h9 => h9) rfl dX4_differing_6 ?_
    refine lv_iconst (v := 0) hx hb dX4_differing_9 (by decide) ?_
    refine wa_iald hx hb hK hP 1 0 rfl rfl (0) rfl (by omega) (by decide) dX4_differing_10 ?_
    refine lv_eqi (nI n) (rfl) ?_
    refine lv_icmp_ge (tgt := 69) hx hb dX4_differing_11 (by decide) (fun c3 => ?_) (fun c3 => ?_)
    · skip
      have c3 : n ≤ i := (nI_leI (a := n) (b := i) (by omega) (by omega)).mp c3
      omega
    · skip
      have c3 : ¬ n ≤ i := fun h9 => c3 ((nI_leI (a := n) (b := i) (by omega) (by omega)).mpr h9)
      refine lv_iload_n hx hb dX4_differing_14 rfl (lv_at hl 1 rfl) ?_
      refine lv_iload_n hx hb dX4_differing_15 rfl (lv_at hl 3 rfl) ?_
      refine lv_iload_n hx hb dX4_differing_16 rfl (lv_at hl 0 rfl) ?_
      refine lv_ishr hx hb dX4_differing_17 ?_
      refine lv_iconst (v := 1) hx hb dX4_differing_18 (by decide) ?_
      refine lv_iand hx hb dX4_differing_19 ?_
      refine lv_eqi (bitI x i) rfl ?_
      refine lv_iconst (v := 1) hx hb dX4_differing_20 (by decide) ?_
      refine lv_icmp_ne (tgt := 44) hx hb dX4_differing_21 (by decide) (fun c21 => ?_) (fun c21 => ?_)
      · skip
        refine lv_aload_n hx hb dX4_differing_44 rfl (lv_at hl 2 rfl) ?_
        refine va_get (D := D) (ci := 4) (v := .ref m1) (C := RX4) (T := TX4) (N := 18) hx hb hts hi4 hown hK hP 0 rfl rfl 1 (by decide) (hts (.fieldLink RX4 7 "PairedChannelsModel" "s" "[I") (List.mem_of_getElem? (i := 1) (by decide +kernel))) (fun _ h9 => h9) rfl dX4_differing_45 ?_
        refine lv_bipush (v := 6) hx hb dX4_differing_48 (by decide) ?_
        refine lv_iload_n hx hb dX4_differing_50 rfl (lv_at hl 0 rfl) ?_
        refine lv_iadd hx hb dX4_differing_51 ?_
        refine lv_eqi (nI (6 + i)) (nI_add 6 i) ?_
        refine wa_iald hx hb hK hP 1 0 rfl rfl (6 + i) rfl (by omega) (by decide) dX4_differing_52 ?_
        refine lv_eqi (vf i) (mst_p _) ?_
        refine lv_if_ge (tgt := 60) hx hb dX4_differing_53 (by decide) (fun c53 => ?_) (fun c53 => ?_)
        · skip
          refine lv_iconst (v := 0) hx hb dX4_differing_60 (by decide) ?_
          refine lv_iadd hx hb dX4_differing_61 ?_
          refine lv_eqi (nI (difS x vf i + 0)) (nI_add (difS x vf i) 0) ?_
          refine lv_istore_n (lv' := [(2, .int (nI (difS x vf i + 0))), (3, .int (nI i)), (0, .ref m0), (1, .int x)]) hx hb dX4_differing_62 rfl hl (by decide) rfl (fun ls hl => ?_)
          refine lv_iinc (v := nI (i + 1)) (lv' := [(3, .int (nI (i + 1))), (2, .int (nI (difS x vf i + 0))), (0, .ref m0), (1, .int x)]) hx hb dX4_differing_63 hl (k := 1) rfl (nI_add i 1) (by decide) rfl (fun ls hl => ?_)
          refine lv_goto (tgt := 4) hx hb dX4_differing_66 (by decide) ?_
          have e9 : (nI (difS x vf i + 0)) = (nI (difS x vf (i + 1))) := congrArg nI (by show _ = difS x vf i + (if bitI x i = 1 then (if 0 < vf i then 1 else 0) else (if vf i < 0 then 1 else 0)); first | rw [if_pos c21, if_pos (Int32.not_le.mp c33)] | (rw [if_pos c21, if_neg (Int32.not_lt.mpr c33)]; done) | rw [if_neg c21, if_pos (Int32.not_le.mp c53)] | (rw [if_neg c21, if_neg (Int32.not_lt.mpr c53)]; done))
          rw [e9] at hl
          exact ih1 H locs ls ⟨hP, hS, lv_sub hl [0, 1, 2, 3] rfl⟩
        · skip
          refine lv_iconst (v := 1) hx hb dX4_differing_56 (by decide) ?_
          refine lv_goto (tgt := 61) hx hb dX4_differing_57 (by decide) ?_
          refine lv_iadd hx hb dX4_differing_61 ?_
          refine lv_eqi (nI (difS x vf i + 1)) (nI_add (difS x vf i) 1) ?_
          refine lv_istore_n (lv' := [(2, .int (nI (difS x vf i + 1))), (3, .int (nI i)), (0, .ref m0), (1, .int x)]) hx hb dX4_differing_62 rfl hl (by decide) rfl (fun ls hl => ?_)
          refine lv_iinc (v := nI (i + 1)) (lv' := [(3, .int (nI (i + 1))), (2, .int (nI (difS x vf i + 1))), (0, .ref m0), (1, .int x)]) hx hb dX4_differing_63 hl (k := 1) rfl (nI_add i 1) (by decide) rfl (fun ls hl => ?_)
          refine lv_goto (tgt := 4) hx hb dX4_differing_66 (by decide) ?_
          have e9 : (nI (difS x vf i + 1)) = (nI (difS x vf (i + 1))) := congrArg nI (by show _ = difS x vf i + (if bitI x i = 1 then (if 0 < vf i then 1 else 0) else (if vf i < 0 then 1 else 0)); first | rw [if_pos c21, if_pos (Int32.not_le.mp c33)] | (rw [if_pos c21, if_neg (Int32.not_lt.mpr c33)]; done) | rw [if_neg c21, if_pos (Int32.not_le.mp c53)] | (rw [if_neg c21, if_neg (Int32.not_lt.mpr c53)]; done))
          rw [e9] at hl
          exact ih1 H locs ls ⟨hP, hS, lv_sub hl [0, 1, 2, 3] rfl⟩
      · skip
        refine lv_aload_n hx hb dX4_differing_24 rfl (lv_at hl 2 rfl) ?_
        refine va_get (D := D) (ci := 4) (v := .ref m1) (C := RX4) (T := TX4) (N := 18) hx hb hts hi4 hown hK hP 0 rfl rfl 1 (by decide) (hts (.fieldLink RX4 7 "PairedChannelsModel" "s" "[I") (List.mem_of_getElem? (i := 1) (by decide +kernel))) (fun _ h9 => h9) rfl dX4_differing_25 ?_
        refine lv_bipush (v := 6) hx hb dX4_differing_28 (by decide) ?_
        refine lv_iload_n hx hb dX4_differing_30 rfl (lv_at hl 0 rfl) ?_
        refine lv_iadd hx hb dX4_differing_31 ?_
        refine lv_eqi (nI (6 + i)) (nI_add 6 i) ?_
        refine wa_iald hx hb hK hP 1 0 rfl rfl (6 + i) rfl (by omega) (by decide) dX4_differing_32 ?_
        refine lv_eqi (vf i) (mst_p _) ?_
        refine lv_if_le (tgt := 40) hx hb dX4_differing_33 (by decide) (fun c33 => ?_) (fun c33 => ?_)
        · skip
          refine lv_iconst (v := 0) hx hb dX4_differing_40 (by decide) ?_
          refine lv_goto (tgt := 61) hx hb dX4_differing_41 (by decide) ?_
          refine lv_iadd hx hb dX4_differing_61 ?_
          refine lv_eqi (nI (difS x vf i + 0)) (nI_add (difS x vf i) 0) ?_
          refine lv_istore_n (lv' := [(2, .int (nI (difS x vf i + 0))), (3, .int (nI i)), (0, .ref m0), (1, .int x)]) hx hb dX4_differing_62 rfl hl (by decide) rfl (fun ls hl => ?_)
          refine lv_iinc (v := nI (i + 1)) (lv' := [(3, .int (nI (i + 1))), (2, .int (nI (difS x vf i + 0))), (0, .ref m0), (1, .int x)]) hx hb dX4_differing_63 hl (k := 1) rfl (nI_add i 1) (by decide) rfl (fun ls hl => ?_)
          refine lv_goto (tgt := 4) hx hb dX4_differing_66 (by decide) ?_
          have e9 : (nI (difS x vf i + 0)) = (nI (difS x vf (i + 1))) := congrArg nI (by show _ = difS x vf i + (if bitI x i = 1 then (if 0 < vf i then 1 else 0) else (if vf i < 0 then 1 else 0)); first | rw [if_pos c21, if_pos (Int32.not_le.mp c33)] | (rw [if_pos c21, if_neg (Int32.not_lt.mpr c33)]; done) | rw [if_neg c21, if_pos (Int32.not_le.mp c53)] | (rw [if_neg c21, if_neg (Int32.not_lt.mpr c53)]; done))
          rw [e9] at hl
          exact ih1 H locs ls ⟨hP, hS, lv_sub hl [0, 1, 2, 3] rfl⟩
        · skip
          refine lv_iconst (v := 1) hx hb dX4_differing_36 (by decide) ?_
          refine lv_goto (tgt := 61) hx hb dX4_differing_37 (by decide) ?_
          refine lv_iadd hx hb dX4_differing_61 ?_
          refine lv_eqi (nI (difS x vf i + 1)) (nI_add (difS x vf i) 1) ?_
          refine lv_istore_n (lv' := [(2, .int (nI (difS x vf i + 1))), (3, .int (nI i)), (0, .ref m0), (1, .int x)]) hx hb dX4_differing_62 rfl hl (by decide) rfl (fun ls hl => ?_)
          refine lv_iinc (v := nI (i + 1)) (lv' := [(3, .int (nI (i + 1))), (2, .int (nI (difS x vf i + 1))), (0, .ref m0), (1, .int x)]) hx hb dX4_differing_63 hl (k := 1) rfl (nI_add i 1) (by decide) rfl (fun ls hl => ?_)
          refine lv_goto (tgt := 4) hx hb dX4_differing_66 (by decide) ?_
          have e9 : (nI (difS x vf i + 1)) = (nI (difS x vf (i + 1))) := congrArg nI (by show _ = difS x vf i + (if bitI x i = 1 then (if 0 < vf i then 1 else 0) else (if vf i < 0 then 1 else 0)); first | rw [if_pos c21, if_pos (Int32.not_le.mp c33)] | (rw [if_pos c21, if_neg (Int32.not_lt.mpr c33)]; done) | rw [if_neg c21, if_pos (Int32.not_le.mp c53)] | (rw [if_neg c21, if_neg (Int32.not_lt.mpr c53)]; done))
          rw [e9] at hl
          exact ih1 H locs ls ⟨hP, hS, lv_sub hl [0, 1, 2, 3] rfl⟩
  · exact ⟨hP, hS, lv_sub hl [0, 1, 2, 3] rfl⟩
