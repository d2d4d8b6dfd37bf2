set_option maxHeartbeats 4000000 in
set_option maxRecDepth 100000 in
theorem c_X4_unsure (l : Launch) (D : va_G) (K : Nat → ClassId) (m0 : Nat) (m1 : Nat) (m2 : Nat) (m3 : Nat) (m4 : Nat) (m5 : Nat) (m6 : Nat) (m7 : Nat) (m8 : Nat) (m9 : Nat) (m10 : Nat) (th : Int32) (sy : Nat) (ly : Nat) (py : Nat) (ay : Nat) (iw : Bool) (ty : Nat) (hy : Int64) (n : Nat) (mask : Int32) (vf : Nat → Int32) (sf : Nat → Int32) (pl : Nat) (hn : okN n) (hp : pl < 16) : MRi l yX4_unsure wsX4_unsure ({ frames := 0, cells := 0, slots := 0, locals := 0 } : Room) D (gTy K) [.ref m0, .int (nI pl)] [(m0, .inr (4, [.int th, .ref m1, .ref m2, .ref m3, .int (nI sy), .ref m4, .int (nI ly), .ref m5, .ref m6, .int (nI py), .ref m7, .ref m8, .ref m9, .int (nI ay), .int (if iw = true then 1 else 0), .ref m10, .int (nI ty), .long hy])), (m1, .inl (K 0, 22, .inl (mst n mask vf sf)))] (fun r => r = uns sf n pl) := by
  refine g_ofR (cc := cX4_unsure) (maxL := 7) (ret := (some .int)) (own := RX4) (by decide) rfl rfl (Nat.le_of_ble_eq_true rfl) ?_
  intro pp ee s mm below meth cc hfx hK hP hE hS ls hl
  obtain ⟨hx, hb, hr, hml, hown, hts, hlk⟩ := hfx
  have hl : lv_has ls 7 [(0, .ref m0), (1, .int (nI pl))] := hl
  have hi4 : ∀ w ∈ u_ws RX4 TX4 18, w ∈ wsX4_unsure := fun w h => List.mem_cons_of_mem _ (List.mem_append_right _ (h))
  have hnl := hn.le
  refine lv_ldc2 hx hb hown (hts (.constantLong RX4 62 (1000)) (List.mem_of_getElem? (i := 1) (by decide +kernel))) dX4_unsure_0 ?_
  refine lv_aload_n hx hb dX4_unsure_3 rfl (lv_at hl 0 rfl) ?_
  refine va_get (D := D) (ci := 4) (v := .ref m1) (C := RX4) (T := TX4) (N := 18) hx hb hts hi4 hown hK hP 0 rfl rfl 1 (by decide) (hts (.fieldLink RX4 7 "PairedChannelsModel" "s" "[I") (List.mem_of_getElem? (i := 2) (by decide +kernel))) (fun _ h9 => h9) rfl dX4_unsure_4 ?_
  refine lv_iconst (v := 2) hx hb dX4_unsure_7 (by decide) ?_
  refine wa_iald hx hb hK hP 1 0 rfl rfl (2) rfl (by omega) (by decide) dX4_unsure_8 ?_
  refine lv_eqi (sf 0) (rfl) ?_
  refine lv_i2l (v := ((sf 0).toInt64)) hx hb dX4_unsure_9 rfl ?_
  refine lv_lmul hx hb dX4_unsure_10 ?_
  refine lv_lstore_n (lv' := [(2, .long (1000 * ((sf 0).toInt64))), (0, .ref m0), (1, .int (nI pl))]) hx hb dX4_unsure_11 rfl hl (by decide) rfl (fun ls hl => ?_)
  refine lv_aload_n hx hb dX4_unsure_12 rfl (lv_at hl 1 rfl) ?_
  refine va_get (D := D) (ci := 4) (v := .ref m1) (C := RX4) (T := TX4) (N := 18) hx hb hts hi4 hown hK hP 0 rfl rfl 1 (by decide) (hts (.fieldLink RX4 7 "PairedChannelsModel" "s" "[I") (List.mem_of_getElem? (i := 2) (by decide +kernel))) (fun _ h9 => h9) rfl dX4_unsure_13 ?_
  refine lv_iconst (v := 0) hx hb dX4_unsure_16 (by decide) ?_
  refine wa_iald hx hb hK hP 1 0 rfl rfl (0) rfl (by omega) (by decide) dX4_unsure_17 ?_
  refine lv_eqi (nI n) (rfl) ?_
  refine lv_iconst (v := 2) hx hb dX4_unsure_18 (by decide) ?_
  refine lv_idiv hx hb dX4_unsure_19 (by decide) ?_
  refine lv_eqi (nI (n / 2)) (pk_div (a := n) (d := 2) (by omega) (by omega) (by omega)) ?_
  refine lv_eqi (nI (2 ^ (lg n) / 2)) (by rw [← lg_pow hn.n1]) ?_
  refine lv_istore (lv' := [(4, .int (nI (2 ^ (lg n) / 2))), (2, .long (1000 * ((sf 0).toInt64))), (0, .ref m0), (1, .int (nI pl))]) hx hb dX4_unsure_20 hl (by decide) rfl (fun ls hl => ?_)
  refine g_loopD (st := []) (N := (lg n)) (fun k H locs ls => ∃ z : Int64, (k ≤ 4 ∧ unsZ pl k z = unsZ pl (lg n) ((sf 0).toInt64 * 1000)) ∧ va_P D vwCl [(m0, .inr (4, [.int th, .ref m1, .ref m2, .ref m3, .int (nI sy), .ref m4, .int (nI ly), .ref m5, .ref m6, .int (nI py), .ref m7, .ref m8, .ref m9, .int (nI ay), .int (if iw = true then 1 else 0), .ref m10, .int (nI ty), .long hy])), (m1, .inl (K 0, 22, .inl (mst n mask vf sf)))] H ∧ va_S gNo s.heap H locs ∧ lv_has ls 7 [(4, .int (nI (2 ^ k / 2))), (2, .long z), (0, .ref m0), (1, .int (nI pl))])  ?_ ?_ ?_
  · intro H locs ls hI
    obtain ⟨z, ⟨hk4, hz⟩, hP, hS, hl⟩ := hI
    have hz : z = _ := hz
    refine lv_iload hx hb dX4_unsure_22 (lv_at hl 0 rfl) ?_
    refine lv_if_le (tgt := 68) hx hb dX4_unsure_24 (by decide) (fun c24 => ?_) (fun c24 => ?_)
    · skip
      have c24 : 2 ^ 0 / 2 ≤ 0 := (nI_leI (a := 2 ^ 0 / 2) (b := 0) (by omega) (by omega)).mp c24
      refine lv_lload_n hx hb dX4_unsure_68 rfl (lv_at hl 1 rfl) ?_
      refine lv_l2i (v := (z.toInt32)) hx hb dX4_unsure_69 rfl ?_
      exact gR_iret (v := (z.toInt32)) hx hb hr hlk (rfl) hS (by rw [hz]; rfl) dX4_unsure_70
    · skip
      have c24 : ¬ 2 ^ 0 / 2 ≤ 0 := fun h9 => c24 ((nI_leI (a := 2 ^ 0 / 2) (b := 0) (by omega) (by omega)).mpr h9)
      exact absurd (by decide) c24
  · intro k ih1 H locs ls hI
    obtain ⟨z, ⟨hk4, hz⟩, hP, hS, hl⟩ := hI
    have hpw := pw_le (k := k) (by omega)
    have hph := pw_half k
    have hpd := Nat.div_le_self pl (2 ^ (k + 1) / 2)
    refine lv_iload hx hb dX4_unsure_22 (lv_at hl 0 rfl) ?_
    refine lv_if_le (tgt := 68) hx hb dX4_unsure_24 (by decide) (fun c24 => ?_) (fun c24 => ?_)
    · skip
      have c24 : 2 ^ (k + 1) / 2 ≤ 0 := (nI_leI (a := 2 ^ (k + 1) / 2) (b := 0) (by omega) (by omega)).mp c24
      omega
    · skip
      have c24 : ¬ 2 ^ (k + 1) / 2 ≤ 0 := fun h9 => c24 ((nI_leI (a := 2 ^ (k + 1) / 2) (b := 0) (by omega) (by omega)).mpr h9)
      refine lv_lload_n hx hb dX4_unsure_27 rfl (lv_at hl 1 rfl) ?_
      refine lv_lload_n hx hb dX4_unsure_28 rfl (lv_at hl 1 rfl) ?_
      refine lv_lmul hx hb dX4_unsure_29 ?_
      refine lv_ldc2 hx hb hown (hts (.constantLong RX4 64 (1000000)) (List.mem_of_getElem? (i := 3) (by decide +kernel))) dX4_unsure_30 ?_
      refine lv_ldiv hx hb dX4_unsure_33 (by decide) ?_
      refine lv_lstore (lv' := [(5, .long ((z * z) / 1000000)), (4, .int (nI (2 ^ (k + 1) / 2))), (2, .long z), (0, .ref m0), (1, .int (nI pl))]) hx hb dX4_unsure_34 hl (by decide) rfl (fun ls hl => ?_)
      refine lv_iload_n hx hb dX4_unsure_36 rfl (lv_at hl 4 rfl) ?_
      refine lv_iload hx hb dX4_unsure_37 (lv_at hl 1 rfl) ?_
      refine lv_idiv hx hb dX4_unsure_39 (nI_ne0 (by omega) (by omega)) ?_
      refine lv_eqi (nI (pl / (2 ^ (k + 1) / 2))) (pk_div (a := pl) (d := 2 ^ (k + 1) / 2) (by omega) (by omega) (by omega)) ?_
      refine lv_iconst (v := 2) hx hb dX4_unsure_40 (by decide) ?_
      refine lv_irem hx hb dX4_unsure_41 (by decide) ?_
      refine lv_eqi (nI ((pl / (2 ^ (k + 1) / 2)) % 2)) (pk_rem (a := pl / (2 ^ (k + 1) / 2)) (d := 2) (by omega) (by omega) (by omega)) ?_
      refine g_cut (F0 mm 58 ls [.long (if (pl / (2 ^ (k + 1) / 2)) % 2 = 0 then ((2 * z) - ((z * z) / 1000000)) else ((z * z) / 1000000))]) (fun hJ => ?_) ?_
      · refine lv_if_ne (tgt := 56) hx hb dX4_unsure_42 (by decide) (fun c4 => ?_) (fun c4 => ?_)
        · skip
          have c4 : ¬ (pl / (2 ^ (k + 1) / 2)) % 2 = 0 := fun h9 => c4 ((nI_eq (a := (pl / (2 ^ (k + 1) / 2)) % 2) (b := 0) (by omega) (by omega)).mpr h9)
          refine lv_lload hx hb dX4_unsure_56 (lv_at hl 0 rfl) ?_
          refine lv_eql ((if (pl / (2 ^ (k + 1) / 2)) % 2 = 0 then ((2 * z) - ((z * z) / 1000000)) else ((z * z) / 1000000))) (if_neg c4).symm ?_
          exact hJ
        · skip
          have c4 : (pl / (2 ^ (k + 1) / 2)) % 2 = 0 := (nI_eq (a := (pl / (2 ^ (k + 1) / 2)) % 2) (b := 0) (by omega) (by omega)).mp c4
          refine lv_ldc2 hx hb hown (hts (.constantLong RX4 66 (2)) (List.mem_of_getElem? (i := 4) (by decide +kernel))) dX4_unsure_45 ?_
          refine lv_lload_n hx hb dX4_unsure_48 rfl (lv_at hl 2 rfl) ?_
          refine lv_lmul hx hb dX4_unsure_49 ?_
          refine lv_lload hx hb dX4_unsure_50 (lv_at hl 0 rfl) ?_
          refine lv_lsub hx hb dX4_unsure_52 ?_
          refine lv_goto (tgt := 58) hx hb dX4_unsure_53 (by decide) ?_
          refine lv_eql ((if (pl / (2 ^ (k + 1) / 2)) % 2 = 0 then ((2 * z) - ((z * z) / 1000000)) else ((z * z) / 1000000))) (if_pos c4).symm ?_
          exact hJ
      · skip
        refine lv_lstore_n (lv' := [(2, .long (if (pl / (2 ^ (k + 1) / 2)) % 2 = 0 then ((2 * z) - ((z * z) / 1000000)) else ((z * z) / 1000000))), (5, .long ((z * z) / 1000000)), (4, .int (nI (2 ^ (k + 1) / 2))), (0, .ref m0), (1, .int (nI pl))]) hx hb dX4_unsure_58 rfl hl (by decide) rfl (fun ls hl => ?_)
        refine lv_iload hx hb dX4_unsure_59 (lv_at hl 2 rfl) ?_
        refine lv_iconst (v := 2) hx hb dX4_unsure_61 (by decide) ?_
        refine lv_idiv hx hb dX4_unsure_62 (by decide) ?_
        refine lv_eqi (nI ((2 ^ (k + 1) / 2) / 2)) (pk_div (a := 2 ^ (k + 1) / 2) (d := 2) (by omega) (by omega) (by omega)) ?_
        refine lv_istore (lv' := [(4, .int (nI ((2 ^ (k + 1) / 2) / 2))), (2, .long (if (pl / (2 ^ (k + 1) / 2)) % 2 = 0 then ((2 * z) - ((z * z) / 1000000)) else ((z * z) / 1000000))), (5, .long ((z * z) / 1000000)), (0, .ref m0), (1, .int (nI pl))]) hx hb dX4_unsure_63 hl (by decide) rfl (fun ls hl => ?_)
        refine lv_goto (tgt := 22) hx hb dX4_unsure_65 (by decide) ?_
        have e9 : (nI ((2 ^ (k + 1) / 2) / 2)) = (nI (2 ^ k / 2)) := by rw [hph]
        rw [e9] at hl
        exact ih1 H locs ls ⟨(if (pl / (2 ^ (k + 1) / 2)) % 2 = 0 then ((2 * z) - ((z * z) / 1000000)) else ((z * z) / 1000000)), (⟨by omega, by rw [hph, ← hz]; rfl⟩), hP, hS, lv_sub hl [0, 1, 3, 4] rfl⟩
  · exact ⟨(1000 * (sf 0).toInt64), (⟨lg_le hn.n1, by rw [Int64.mul_comm 1000]⟩), hP, hS, lv_sub hl [0, 1, 2, 3] rfl⟩

set_option maxHeartbeats 4000000 in
set_option maxRecDepth 100000 in
theorem c_X4_rankOf (l : Launch) (D : va_G) (K : Nat → ClassId) (m0 : Nat) (m1 : Nat) (m2 : Nat) (m3 : Nat) (m4 : Nat) (m5 : Nat) (m6 : Nat) (m7 : Nat) (m8 : Nat) (m9 : Nat) (m10 : Nat) (th : Int32) (sy : Nat) (ly : Nat) (py : Nat) (ay : Nat) (iw : Bool) (ty : Nat) (hy : Int64) (n : Nat) (mask : Int32) (vf : Nat → Int32) (sf : Nat → Int32) (pl : Nat) (hn : okN n) (hsf : okS sf) (hp : pl < n) : MRi l yX4_rankOf wsX4_rankOf ({ frames := 1, cells := 0, slots := 0, locals := 26 } : Room) D (gTy K) [.ref m0, .int (nI pl)] [(m0, .inr (4, [.int th, .ref m1, .ref m2, .ref m3, .int (nI sy), .ref m4, .int (nI ly), .ref m5, .ref m6, .int (nI py), .ref m7, .ref m8, .ref m9, .int (nI ay), .int (if iw = true then 1 else 0), .ref m10, .int (nI ty), .long hy])), (m1, .inl (K 0, 22, .inl (mst n mask vf sf)))] (fun r => r = nI (rnk (uns sf n) pl n)) := by
  refine g_ofR (cc := cX4_rankOf) (maxL := 6) (ret := (some .int)) (own := RX4) (by decide) rfl rfl (Nat.le_of_ble_eq_true rfl) ?_
  intro pp ee s mm below meth cc hfx hK hP hE hS ls hl
  obtain ⟨hx, hb, hr, hml, hown, hts, hlk⟩ := hfx
  have hl : lv_has ls 6 [(0, .ref m0), (1, .int (nI pl))] := hl
  have hi4 : ∀ w ∈ u_ws RX4 TX4 18, w ∈ wsX4_rankOf := fun w h => List.mem_cons_of_mem _ (List.mem_append_right _ (h))
  have hnl := hn.le
  refine lv_aload_n hx hb dX4_rankOf_0 rfl (lv_at hl 0 rfl) ?_
  refine lv_iload_n hx hb dX4_rankOf_1 rfl (lv_at hl 1 rfl) ?_
  refine gR_i (va_runV (As := [.int (nI pl)]) (rest := []) ⟨hx, hb, hml, hown, hts⟩ (c_X4_unsure l D K m0 m1 m2 m3 m4 m5 m6 m7 m8 m9 m10 th sy ly py ay iw ty hy n mask vf sf pl (by first | assumption | omega) (by first | assumption | omega)) (cwV 1 hts gX4_rankOf_X4_unsure rfl rfl rfl (by decide +kernel) ⟨Nat.le_of_ble_eq_true rfl, Nat.le_of_ble_eq_true rfl⟩) (gR_preV hE hS hK hP [0, 1] rfl 0 rfl rfl rfl) rfl rfl hl.1 rfl (lv_room (Nat.le_of_ble_eq_true rfl)) dX4_rankOf_2 ⟨Nat.le_of_ble_eq_true rfl, Nat.le_of_ble_eq_true rfl⟩) hS hP (fun rv2 H locs h1 hP hS => ?_)
  have h1 : rv2 = uns sf n pl := h1
  subst h1
  refine lv_istore_n (lv' := [(2, .int (uns sf n pl)), (0, .ref m0), (1, .int (nI pl))]) hx hb dX4_rankOf_5 rfl hl (by decide) rfl (fun ls hl => ?_)
  refine lv_iconst (v := 0) hx hb dX4_rankOf_6 (by decide) ?_
  refine lv_istore_n (lv' := [(3, .int 0), (2, .int (uns sf n pl)), (0, .ref m0), (1, .int (nI pl))]) hx hb dX4_rankOf_7 rfl hl (by decide) rfl (fun ls hl => ?_)
  refine lv_iconst (v := 0) hx hb dX4_rankOf_8 (by decide) ?_
  refine lv_istore (lv' := [(4, .int 0), (3, .int 0), (2, .int (uns sf n pl)), (0, .ref m0), (1, .int (nI pl))]) hx hb dX4_rankOf_9 hl (by decide) rfl (fun ls hl => ?_)
  refine g_loopW (st := []) (N := n) (fun i H locs ls => va_P D vwCl [(m0, .inr (4, [.int th, .ref m1, .ref m2, .ref m3, .int (nI sy), .ref m4, .int (nI ly), .ref m5, .ref m6, .int (nI py), .ref m7, .ref m8, .ref m9, .int (nI ay), .int (if iw = true then 1 else 0), .ref m10, .int (nI ty), .long hy])), (m1, .inl (K 0, 22, .inl (mst n mask vf sf)))] H ∧ va_S gNo s.heap H locs ∧ lv_has ls 6 [(4, .int (nI i)), (3, .int (nI (rnk (uns sf n) pl i))), (2, .int (uns sf n pl)), (0, .ref m0), (1, .int (nI pl))]) 0 (Nat.zero_le _) ?_ ?_ ?_
  · intro H locs ls hI
    obtain ⟨hP, hS, hl⟩ := hI
    refine lv_iload hx hb dX4_rankOf_11 (lv_at hl 0 rfl) ?_
    refine lv_aload_n hx hb dX4_rankOf_13 rfl (lv_at hl 3 rfl) ?_
    refine va_get (D := D) (ci := 4) (v := .ref m1) (C := RX4) (T := TX4) (N := 18) hx hb hts hi4 hown hK hP 0 rfl rfl 1 (by decide) (hts (.fieldLink RX4 7 "PairedChannelsModel" "s" "[I") (List.mem_of_getElem? (i := 1) (by decide +kernel))) (fun _ h9 => h9) rfl dX4_rankOf_14 ?_
    refine lv_iconst (v := 0) hx hb dX4_rankOf_17 (by decide) ?_
    refine wa_iald hx hb hK hP 1 0 rfl rfl (0) rfl (by omega) (by decide) dX4_rankOf_18 ?_
    refine lv_eqi (nI n) (rfl) ?_
    refine lv_icmp_ge (tgt := 62) hx hb dX4_rankOf_19 (by decide) (fun c4 => ?_) (fun c4 => ?_)
    · skip
      have c4 : n ≤ n := (nI_leI (a := n) (b := n) (by omega) (by omega)).mp c4
      refine lv_iload_n hx hb dX4_rankOf_62 rfl (lv_at hl 1 rfl) ?_
      exact gR_iret (v := nI (rnk (uns sf n) pl n)) hx hb hr hlk (rfl) hS (rfl) dX4_rankOf_63
    · skip
      have c4 : ¬ n ≤ n := fun h9 => c4 ((nI_leI (a := n) (b := n) (by omega) (by omega)).mpr h9)
      omega
  · intro i hi ih3 H locs ls hI
    obtain ⟨hP, hS, hl⟩ := hI
    have hrk := rnk_le (uns sf n) pl i
    have hub := uns_b hsf n pl
    have hui := uns_b hsf n i
    refine lv_iload hx hb dX4_rankOf_11 (lv_at hl 0 rfl) ?_
    refine lv_aload_n hx hb dX4_rankOf_13 rfl (lv_at hl 3 rfl) ?_
    refine va_get (D := D) (ci := 4) (v := .ref m1) (C := RX4) (T := TX4) (N := 18) hx hb hts hi4 hown hK hP 0 rfl rfl 1 (by decide) (hts (.fieldLink RX4 7 "PairedChannelsModel" "s" "[I") (List.mem_of_getElem? (i := 1) (by decide +kernel))) (fun _ h9 => h9) rfl dX4_rankOf_14 ?_
    refine lv_iconst (v := 0) hx hb dX4_rankOf_17 (by decide) ?_
    refine wa_iald hx hb hK hP 1 0 rfl rfl (0) rfl (by omega) (by decide) dX4_rankOf_18 ?_
    refine lv_eqi (nI n) (rfl) ?_
    refine lv_icmp_ge (tgt := 62) hx hb dX4_rankOf_19 (by decide) (fun c5 => ?_) (fun c5 => ?_)
    · skip
      have c5 : n ≤ i := (nI_leI (a := n) (b := i) (by omega) (by omega)).mp c5
      omega
    · skip
      have c5 : ¬ n ≤ i := fun h9 => c5 ((nI_leI (a := n) (b := i) (by omega) (by omega)).mpr h9)
      refine lv_iload_n hx hb dX4_rankOf_22 rfl (lv_at hl 2 rfl) ?_
      refine lv_aload_n hx hb dX4_rankOf_23 rfl (lv_at hl 3 rfl) ?_
      refine lv_iload hx hb dX4_rankOf_24 (lv_at hl 0 rfl) ?_
      refine gR_i (va_runV (As := [.int (nI i)]) (rest := [.int (uns sf n pl)]) ⟨hx, hb, hml, hown, hts⟩ (c_X4_unsure l D K m0 m1 m2 m3 m4 m5 m6 m7 m8 m9 m10 th sy ly py ay iw ty hy n mask vf sf i (by first | assumption | omega) (by first | assumption | omega)) (cwV 1 hts gX4_rankOf_X4_unsure rfl rfl rfl (by decide +kernel) ⟨Nat.le_of_ble_eq_true rfl, Nat.le_of_ble_eq_true rfl⟩) (gR_preV hE hS hK hP [0, 1] rfl 0 rfl rfl rfl) rfl rfl hl.1 rfl (lv_room (Nat.le_of_ble_eq_true rfl)) dX4_rankOf_26 ⟨Nat.le_of_ble_eq_true rfl, Nat.le_of_ble_eq_true rfl⟩) hS hP (fun rv7 H locs h6 hP hS => ?_)
      have h6 : rv7 = uns sf n i := h6
      subst h6
      refine lv_isub hx hb dX4_rankOf_29 ?_
      refine lv_istore (lv' := [(5, .int (uns sf n pl - uns sf n i)), (4, .int (nI i)), (3, .int (nI (rnk (uns sf n) pl i))), (2, .int (uns sf n pl)), (0, .ref m0), (1, .int (nI pl))]) hx hb dX4_rankOf_30 hl (by decide) rfl (fun ls hl => ?_)
      refine lv_iload_n hx hb dX4_rankOf_32 rfl (lv_at hl 2 rfl) ?_
      refine lv_iload hx hb dX4_rankOf_33 (lv_at hl 0 rfl) ?_
      refine lv_if_gt (tgt := 49) hx hb dX4_rankOf_35 (by decide) (fun c35 => ?_) (fun c35 => ?_)
      · skip
        have c31 : uns sf n i < uns sf n pl := (dif_lt hub hui).mp c35
        refine lv_iconst (v := 1) hx hb dX4_rankOf_49 (by decide) ?_
        refine lv_goto (tgt := 54) hx hb dX4_rankOf_50 (by decide) ?_
        refine lv_iadd hx hb dX4_rankOf_54 ?_
        refine lv_eqi (nI (rnk (uns sf n) pl i + 1)) (nI_add (rnk (uns sf n) pl i) 1) ?_
        refine lv_istore_n (lv' := [(3, .int (nI (rnk (uns sf n) pl i + 1))), (5, .int (uns sf n pl - uns sf n i)), (4, .int (nI i)), (2, .int (uns sf n pl)), (0, .ref m0), (1, .int (nI pl))]) hx hb dX4_rankOf_55 rfl hl (by decide) rfl (fun ls hl => ?_)
        refine lv_iinc (v := nI (i + 1)) (lv' := [(4, .int (nI (i + 1))), (3, .int (nI (rnk (uns sf n) pl i + 1))), (5, .int (uns sf n pl - uns sf n i)), (2, .int (uns sf n pl)), (0, .ref m0), (1, .int (nI pl))]) hx hb dX4_rankOf_56 hl (k := 2) rfl (nI_add i 1) (by decide) rfl (fun ls hl => ?_)
        refine lv_goto (tgt := 11) hx hb dX4_rankOf_59 (by decide) ?_
        have e9 : (nI (rnk (uns sf n) pl i + 1)) = (nI (rnk (uns sf n) pl (i + 1))) := congrArg nI (by show _ = rnk (uns sf n) pl i + (if uns sf n i < uns sf n pl ∨ (uns sf n i = uns sf n pl ∧ pl < i) then 1 else 0); first | rw [if_pos (Or.inl c31)] | (first | exact (g_ip (Or.inr ⟨c37, by omega⟩) rfl) | exact (g_tp (Or.inr ⟨c37, by omega⟩) rfl) | exact (g_ap (Or.inr ⟨c37, by omega⟩) rfl)) | ((first | exact (g_in (fun h => h.elim c31 (fun h => c37 h.1)) rfl) | exact (g_tn (fun h => h.elim c31 (fun h => c37 h.1)) rfl) | exact (g_an (fun h => h.elim c31 (fun h => c37 h.1)) rfl))) | ((first | exact (g_in (fun h => h.elim c31 (fun h => absurd h.2 (by omega))) rfl) | exact (g_tn (fun h => h.elim c31 (fun h => absurd h.2 (by omega))) rfl) | exact (g_an (fun h => h.elim c31 (fun h => absurd h.2 (by omega))) rfl))))
        rw [e9] at hl
        exact ih3 H locs ls ⟨hP, hS, lv_sub hl [0, 1, 3, 4, 5] rfl⟩
      · skip
        have c31 : ¬ uns sf n i < uns sf n pl := fun h => c35 ((dif_lt hub hui).mpr h)
        refine lv_iload hx hb dX4_rankOf_38 (lv_at hl 0 rfl) ?_
        refine lv_if_ne (tgt := 53) hx hb dX4_rankOf_40 (by decide) (fun c40 => ?_) (fun c40 => ?_)
        · skip
          have c37 : ¬ uns sf n i = uns sf n pl := fun h => c40 ((dif_eq hub hui).mpr h)
          refine lv_iconst (v := 0) hx hb dX4_rankOf_53 (by decide) ?_
          refine lv_iadd hx hb dX4_rankOf_54 ?_
          refine lv_eqi (nI (rnk (uns sf n) pl i + 0)) (nI_add (rnk (uns sf n) pl i) 0) ?_
          refine lv_istore_n (lv' := [(3, .int (nI (rnk (uns sf n) pl i + 0))), (5, .int (uns sf n pl - uns sf n i)), (4, .int (nI i)), (2, .int (uns sf n pl)), (0, .ref m0), (1, .int (nI pl))]) hx hb dX4_rankOf_55 rfl hl (by decide) rfl (fun ls hl => ?_)
          refine lv_iinc (v := nI (i + 1)) (lv' := [(4, .int (nI (i + 1))), (3, .int (nI (rnk (uns sf n) pl i + 0))), (5, .int (uns sf n pl - uns sf n i)), (2, .int (uns sf n pl)), (0, .ref m0), (1, .int (nI pl))]) hx hb dX4_rankOf_56 hl (k := 2) rfl (nI_add i 1) (by decide) rfl (fun ls hl => ?_)
          refine lv_goto (tgt := 11) hx hb dX4_rankOf_59 (by decide) ?_
          have e9 : (nI (rnk (uns sf n) pl i + 0)) = (nI (rnk (uns sf n) pl (i + 1))) := congrArg nI (by show _ = rnk (uns sf n) pl i + (if uns sf n i < uns sf n pl ∨ (uns sf n i = uns sf n pl ∧ pl < i) then 1 else 0); first | rw [if_pos (Or.inl c31)] | (first | exact (g_ip (Or.inr ⟨c37, by omega⟩) rfl) | exact (g_tp (Or.inr ⟨c37, by omega⟩) rfl) | exact (g_ap (Or.inr ⟨c37, by omega⟩) rfl)) | ((first | exact (g_in (fun h => h.elim c31 (fun h => c37 h.1)) rfl) | exact (g_tn (fun h => h.elim c31 (fun h => c37 h.1)) rfl) | exact (g_an (fun h => h.elim c31 (fun h => c37 h.1)) rfl))) | ((first | exact (g_in (fun h => h.elim c31 (fun h => absurd h.2 (by omega))) rfl) | exact (g_tn (fun h => h.elim c31 (fun h => absurd h.2 (by omega))) rfl) | exact (g_an (fun h => h.elim c31 (fun h => absurd h.2 (by omega))) rfl))))
          rw [e9] at hl
          exact ih3 H locs ls ⟨hP, hS, lv_sub hl [0, 1, 3, 4, 5] rfl⟩
        · skip
          have c37 : uns sf n i = uns sf n pl := (dif_eq hub hui).mp c40
          refine lv_iload hx hb dX4_rankOf_43 (lv_at hl 1 rfl) ?_
          refine lv_iload_n hx hb dX4_rankOf_45 rfl (lv_at hl 5 rfl) ?_
          refine lv_icmp_le (tgt := 53) hx hb dX4_rankOf_46 (by decide) (fun c10 => ?_) (fun c10 => ?_)
          · skip
            have c10 : i ≤ pl := (nI_leI (a := i) (b := pl) (by omega) (by omega)).mp c10
            refine lv_iconst (v := 0) hx hb dX4_rankOf_53 (by decide) ?_
            refine lv_iadd hx hb dX4_rankOf_54 ?_
            refine lv_eqi (nI (rnk (uns sf n) pl i + 0)) (nI_add (rnk (uns sf n) pl i) 0) ?_
            refine lv_istore_n (lv' := [(3, .int (nI (rnk (uns sf n) pl i + 0))), (5, .int (uns sf n pl - uns sf n i)), (4, .int (nI i)), (2, .int (uns sf n pl)), (0, .ref m0), (1, .int (nI pl))]) hx hb dX4_rankOf_55 rfl hl (by decide) rfl (fun ls hl => ?_)
            refine lv_iinc (v := nI (i + 1)) (lv' := [(4, .int (nI (i + 1))), (3, .int (nI (rnk (uns sf n) pl i + 0))), (5, .int (uns sf n pl - uns sf n i)), (2, .int (uns sf n pl)), (0, .ref m0), (1, .int (nI pl))]) hx hb dX4_rankOf_56 hl (k := 2) rfl (nI_add i 1) (by decide) rfl (fun ls hl => ?_)
            refine lv_goto (tgt := 11) hx hb dX4_rankOf_59 (by decide) ?_
            have e9 : (nI (rnk (uns sf n) pl i + 0)) = (nI (rnk (uns sf n) pl (i + 1))) := congrArg nI (by show _ = rnk (uns sf n) pl i + (if uns sf n i < uns sf n pl ∨ (uns sf n i = uns sf n pl ∧ pl < i) then 1 else 0); first | rw [if_pos (Or.inl c31)] | (first | exact (g_ip (Or.inr ⟨c37, by omega⟩) rfl) | exact (g_tp (Or.inr ⟨c37, by omega⟩) rfl) | exact (g_ap (Or.inr ⟨c37, by omega⟩) rfl)) | ((first | exact (g_in (fun h => h.elim c31 (fun h => c37 h.1)) rfl) | exact (g_tn (fun h => h.elim c31 (fun h => c37 h.1)) rfl) | exact (g_an (fun h => h.elim c31 (fun h => c37 h.1)) rfl))) | ((first | exact (g_in (fun h => h.elim c31 (fun h => absurd h.2 (by omega))) rfl) | exact (g_tn (fun h => h.elim c31 (fun h => absurd h.2 (by omega))) rfl) | exact (g_an (fun h => h.elim c31 (fun h => absurd h.2 (by omega))) rfl))))
            rw [e9] at hl
            exact ih3 H locs ls ⟨hP, hS, lv_sub hl [0, 1, 3, 4, 5] rfl⟩
          · skip
            have c10 : ¬ i ≤ pl := fun h9 => c10 ((nI_leI (a := i) (b := pl) (by omega) (by omega)).mpr h9)
            refine lv_iconst (v := 1) hx hb dX4_rankOf_49 (by decide) ?_
            refine lv_goto (tgt := 54) hx hb dX4_rankOf_50 (by decide) ?_
            refine lv_iadd hx hb dX4_rankOf_54 ?_
            refine lv_eqi (nI (rnk (uns sf n) pl i + 1)) (nI_add (rnk (uns sf n) pl i) 1) ?_
            refine lv_istore_n (lv' := [(3, .int (nI (rnk (uns sf n) pl i + 1))), (5, .int (uns sf n pl - uns sf n i)), (4, .int (nI i)), (2, .int (uns sf n pl)), (0, .ref m0), (1, .int (nI pl))]) hx hb dX4_rankOf_55 rfl hl (by decide) rfl (fun ls hl => ?_)
            refine lv_iinc (v := nI (i + 1)) (lv' := [(4, .int (nI (i + 1))), (3, .int (nI (rnk (uns sf n) pl i + 1))), (5, .int (uns sf n pl - uns sf n i)), (2, .int (uns sf n pl)), (0, .ref m0), (1, .int (nI pl))]) hx hb dX4_rankOf_56 hl (k := 2) rfl (nI_add i 1) (by decide) rfl (fun ls hl => ?_)
            refine lv_goto (tgt := 11) hx hb dX4_rankOf_59 (by decide) ?_
            have e9 : (nI (rnk (uns sf n) pl i + 1)) = (nI (rnk (uns sf n) pl (i + 1))) := congrArg nI (by show _ = rnk (uns sf n) pl i + (if uns sf n i < uns sf n pl ∨ (uns sf n i = uns sf n pl ∧ pl < i) then 1 else 0); first | rw [if_pos (Or.inl c31)] | (first | exact (g_ip (Or.inr ⟨c37, by omega⟩) rfl) | exact (g_tp (Or.inr ⟨c37, by omega⟩) rfl) | exact (g_ap (Or.inr ⟨c37, by omega⟩) rfl)) | ((first | exact (g_in (fun h => h.elim c31 (fun h => c37 h.1)) rfl) | exact (g_tn (fun h => h.elim c31 (fun h => c37 h.1)) rfl) | exact (g_an (fun h => h.elim c31 (fun h => c37 h.1)) rfl))) | ((first | exact (g_in (fun h => h.elim c31 (fun h => absurd h.2 (by omega))) rfl) | exact (g_tn (fun h => h.elim c31 (fun h => absurd h.2 (by omega))) rfl) | exact (g_an (fun h => h.elim c31 (fun h => absurd h.2 (by omega))) rfl))))
            rw [e9] at hl
            exact ih3 H locs ls ⟨hP, hS, lv_sub hl [0, 1, 3, 4, 5] rfl⟩
  · exact ⟨hP, hS, lv_sub hl [0, 1, 2, 3, 4] rfl⟩

set_option maxHeartbeats 4000000 in
set_option maxRecDepth 100000 in
theorem c_X4_numberOf (l : Launch) (D : va_G) (K : Nat → ClassId) (m0 : Nat) (m1 : Nat) (m2 : Nat) (m3 : Nat) (m4 : Nat) (m5 : Nat) (m6 : Nat) (m7 : Nat) (m8 : Nat) (m9 : Nat) (m10 : Nat) (th : Int32) (sy : Nat) (ly : Nat) (py : Nat) (ay : Nat) (iw : Bool) (ty : Nat) (hy : Int64) (n : Nat) (mask : Int32) (vf : Nat → Int32) (sf : Nat → Int32) (pl : Nat) (hp : pl ≤ 16) : MRi l yX4_numberOf wsX4_numberOf ({ frames := 1, cells := 0, slots := 0, locals := 21 } : Room) D (gTy K) [.ref m0, .int (nI pl)] [(m0, .inr (4, [.int th, .ref m1, .ref m2, .ref m3, .int (nI sy), .ref m4, .int (nI ly), .ref m5, .ref m6, .int (nI py), .ref m7, .ref m8, .ref m9, .int (nI ay), .int (if iw = true then 1 else 0), .ref m10, .int (nI ty), .long hy])), (m1, .inl (K 0, 22, .inl (mst n mask vf sf)))] (fun r => r = (if opn mask pl then nI (cntO mask pl) else -1)) := by
  refine g_ofR (cc := cX4_numberOf) (maxL := 4) (ret := (some .int)) (own := RX4) (by decide) rfl rfl (Nat.le_of_ble_eq_true rfl) ?_
  intro pp ee s mm below meth cc hfx hK hP hE hS ls hl
  obtain ⟨hx, hb, hr, hml, hown, hts, hlk⟩ := hfx
  have hl : lv_has ls 4 [(0, .ref m0), (1, .int (nI pl))] := hl
  refine lv_iconst (v := 0) hx hb dX4_numberOf_0 (by decide) ?_
  refine lv_istore_n (lv' := [(2, .int 0), (0, .ref m0), (1, .int (nI pl))]) hx hb dX4_numberOf_1 rfl hl (by decide) rfl (fun ls hl => ?_)
  refine lv_iconst (v := 0) hx hb dX4_numberOf_2 (by decide) ?_
  refine lv_istore_n (lv' := [(3, .int 0), (2, .int 0), (0, .ref m0), (1, .int (nI pl))]) hx hb dX4_numberOf_3 rfl hl (by decide) rfl (fun ls hl => ?_)
  refine g_loopW (st := []) (N := pl) (fun i H locs ls => va_P D vwCl [(m0, .inr (4, [.int th, .ref m1, .ref m2, .ref m3, .int (nI sy), .ref m4, .int (nI ly), .ref m5, .ref m6, .int (nI py), .ref m7, .ref m8, .ref m9, .int (nI ay), .int (if iw = true then 1 else 0), .ref m10, .int (nI ty), .long hy])), (m1, .inl (K 0, 22, .inl (mst n mask vf sf)))] H ∧ va_S gNo s.heap H locs ∧ lv_has ls 4 [(3, .int (nI i)), (2, .int (nI (cntO mask i))), (0, .ref m0), (1, .int (nI pl))]) 0 (Nat.zero_le _) ?_ ?_ ?_
  · intro H locs ls hI
    obtain ⟨hP, hS, hl⟩ := hI
    refine lv_iload_n hx hb dX4_numberOf_4 rfl (lv_at hl 0 rfl) ?_
    refine lv_iload_n hx hb dX4_numberOf_5 rfl (lv_at hl 3 rfl) ?_
    refine lv_icmp_ge (tgt := 31) hx hb dX4_numberOf_6 (by decide) (fun c2 => ?_) (fun c2 => ?_)
    · skip
      have c2 : pl ≤ pl := (nI_leI (a := pl) (b := pl) (by omega) (by omega)).mp c2
      refine lv_aload_n hx hb dX4_numberOf_31 rfl (lv_at hl 2 rfl) ?_
      refine lv_iload_n hx hb dX4_numberOf_32 rfl (lv_at hl 3 rfl) ?_
      refine gR_i (va_runV (As := [.int (nI pl)]) (rest := []) ⟨hx, hb, hml, hown, hts⟩ (c_X4_isOpen l D K m0 m1 m2 m3 m4 m5 m6 m7 m8 m9 m10 th sy ly py ay iw ty hy n mask vf sf pl ) (cwV 1 hts gX4_numberOf_X4_isOpen rfl rfl rfl (by decide +kernel) ⟨Nat.le_of_ble_eq_true rfl, Nat.le_of_ble_eq_true rfl⟩) (gR_preV hE hS hK hP [0, 1] rfl 0 rfl rfl rfl) rfl rfl hl.1 rfl (lv_room (Nat.le_of_ble_eq_true rfl)) dX4_numberOf_33 ⟨Nat.le_of_ble_eq_true rfl, Nat.le_of_ble_eq_true rfl⟩) hS hP (fun rv4 H locs h3 hP hS => ?_)
      have h3 : rv4 = (if opn mask pl then 1 else 0) := h3
      subst h3
      refine g_cut (F0 mm 44 ls [.int (if opn mask pl then nI (cntO mask pl) else (-1))]) (fun hJ => ?_) ?_
      · refine lv_if_eq (tgt := 43) hx hb dX4_numberOf_36 (by decide) (fun c5 => ?_) (fun c5 => ?_)
        · skip
          have c5 : ¬ (opn mask pl) := b_eq0 c5
          refine lv_iconst (v := (-1)) hx hb dX4_numberOf_43 (by decide) ?_
          refine lv_eqi ((if opn mask pl then nI (cntO mask pl) else (-1))) (if_neg c5).symm ?_
          exact hJ
        · skip
          have c5 : opn mask pl := b_ne0 c5
          refine lv_iload_n hx hb dX4_numberOf_39 rfl (lv_at hl 1 rfl) ?_
          refine lv_goto (tgt := 44) hx hb dX4_numberOf_40 (by decide) ?_
          refine lv_eqi ((if opn mask pl then nI (cntO mask pl) else (-1))) (if_pos c5).symm ?_
          exact hJ
      · skip
        exact gR_iret (v := (if opn mask pl then nI (cntO mask pl) else (-1))) hx hb hr hlk (rfl) hS (rfl) dX4_numberOf_44
    · skip
      have c2 : ¬ pl ≤ pl := fun h9 => c2 ((nI_leI (a := pl) (b := pl) (by omega) (by omega)).mpr h9)
      omega
  · intro i hi ih1 H locs ls hI
    obtain ⟨hP, hS, hl⟩ := hI
    refine lv_iload_n hx hb dX4_numberOf_4 rfl (lv_at hl 0 rfl) ?_
    refine lv_iload_n hx hb dX4_numberOf_5 rfl (lv_at hl 3 rfl) ?_
    refine lv_icmp_ge (tgt := 31) hx hb dX4_numberOf_6 (by decide) (fun c6 => ?_) (fun c6 => ?_)
    · skip
      have c6 : pl ≤ i := (nI_leI (a := pl) (b := i) (by omega) (by omega)).mp c6
      omega
    · skip
      have c6 : ¬ pl ≤ i := fun h9 => c6 ((nI_leI (a := pl) (b := i) (by omega) (by omega)).mpr h9)
      refine lv_iload_n hx hb dX4_numberOf_9 rfl (lv_at hl 1 rfl) ?_
      refine lv_aload_n hx hb dX4_numberOf_10 rfl (lv_at hl 2 rfl) ?_
      refine lv_iload_n hx hb dX4_numberOf_11 rfl (lv_at hl 0 rfl) ?_
      refine gR_i (va_runV (As := [.int (nI i)]) (rest := [.int (nI (cntO mask i))]) ⟨hx, hb, hml, hown, hts⟩ (c_X4_isOpen l D K m0 m1 m2 m3 m4 m5 m6 m7 m8 m9 m10 th sy ly py ay iw ty hy n mask vf sf i ) (cwV 1 hts gX4_numberOf_X4_isOpen rfl rfl rfl (by decide +kernel) ⟨Nat.le_of_ble_eq_true rfl, Nat.le_of_ble_eq_true rfl⟩) (gR_preV hE hS hK hP [0, 1] rfl 0 rfl rfl rfl) rfl rfl hl.1 rfl (lv_room (Nat.le_of_ble_eq_true rfl)) dX4_numberOf_12 ⟨Nat.le_of_ble_eq_true rfl, Nat.le_of_ble_eq_true rfl⟩) hS hP (fun rv8 H locs h7 hP hS => ?_)
      have h7 : rv8 = (if opn mask i then 1 else 0) := h7
      subst h7
      refine g_cut (F0 mm 23 ls [.int (if opn mask i then 1 else 0), .int (nI (cntO mask i))]) (fun hJ => ?_) ?_
      · refine lv_if_eq (tgt := 22) hx hb dX4_numberOf_15 (by decide) (fun c9 => ?_) (fun c9 => ?_)
        · skip
          have c9 : ¬ (opn mask i) := b_eq0 c9
          refine lv_iconst (v := 0) hx hb dX4_numberOf_22 (by decide) ?_
          refine lv_eqi ((if opn mask i then 1 else 0)) (if_neg c9).symm ?_
          exact hJ
        · skip
          have c9 : opn mask i := b_ne0 c9
          refine lv_iconst (v := 1) hx hb dX4_numberOf_18 (by decide) ?_
          refine lv_goto (tgt := 23) hx hb dX4_numberOf_19 (by decide) ?_
          refine lv_eqi ((if opn mask i then 1 else 0)) (if_pos c9).symm ?_
          exact hJ
      · skip
        refine lv_iadd hx hb dX4_numberOf_23 ?_
        refine lv_istore_n (lv' := [(2, .int (nI (cntO mask i) + (if opn mask i then 1 else 0))), (3, .int (nI i)), (0, .ref m0), (1, .int (nI pl))]) hx hb dX4_numberOf_24 rfl hl (by decide) rfl (fun ls hl => ?_)
        refine lv_iinc (v := nI (i + 1)) (lv' := [(3, .int (nI (i + 1))), (2, .int (nI (cntO mask i) + (if opn mask i then 1 else 0))), (0, .ref m0), (1, .int (nI pl))]) hx hb dX4_numberOf_25 hl (k := 1) rfl (nI_add i 1) (by decide) rfl (fun ls hl => ?_)
        refine lv_goto (tgt := 4) hx hb dX4_numberOf_28 (by decide) ?_
        have e9 : (nI (cntO mask i) + (if opn mask i then 1 else 0)) = (nI (cntO mask (i + 1))) := nI_ite _ _
        rw [e9] at hl
        exact ih1 H locs ls ⟨hP, hS, lv_sub hl [0, 1, 2, 3] rfl⟩
  · exact ⟨hP, hS, lv_sub hl [0, 1, 2, 3] rfl⟩
