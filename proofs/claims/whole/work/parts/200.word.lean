set_option maxHeartbeats 4000000 in
set_option maxRecDepth 100000 in
theorem c_J6_bitCount_0f7a4 (l : Launch) (D : va_G) (K : Nat → ClassId) (k : Nat) (hk : k < 65536) : MRi l yJ6_bitCount_0f7a4 wsJ6_bitCount_0f7a4 ({ frames := 0, cells := 0, slots := 0, locals := 0 } : Room) D (gTy K) [.int (nI k)] [] (fun r => r = nI (cntO (nI k) 16)) := by
  refine g_ofR (cc := cJ6_bitCount_0f7a4) (maxL := 1) (ret := (some .int)) (own := RJ6) (by decide) rfl rfl (Nat.le_of_ble_eq_true rfl) ?_
  intro pp ee s mm below meth cc hfx hK hP hE hS ls hl
  obtain ⟨hx, hb, hr, hml, hown, hts, hlk⟩ := hfx
  have hl : lv_has ls 1 [(0, .int (nI (bc5 (bc4 (bc3 (bc2 (bc1 k)))))))] := hl
  obtain ⟨hb1, hb2, hb3, hb4⟩ := bc_b hk
  refine lv_iload_n hx hb dJ6_bitCount_0f7a4_0 rfl (lv_at hl 0 rfl) ?_
  refine lv_iload_n hx hb dJ6_bitCount_0f7a4_1 rfl (lv_at hl 0 rfl) ?_
  refine lv_iconst (v := 1) hx hb dJ6_bitCount_0f7a4_2 (by decide) ?_
  refine lv_iushr hx hb dJ6_bitCount_0f7a4_3 rfl ?_
  refine lv_eqi (nI (k / 2 ^ 1)) (pk_ushrN (by omega) 1 1 (by decide)) ?_
  refine lv_ldcw hx hb hown (hts (.constant RJ6 265 (1431655765)) (List.mem_of_getElem? (i := 1) (by decide +kernel))) dJ6_bitCount_0f7a4_4 ?_
  refine lv_iand hx hb dJ6_bitCount_0f7a4_7 ?_
  refine lv_eqi (nI (k / 2 ^ 1 &&& 1431655765)) (nI_and _ _) ?_
  refine lv_isub hx hb dJ6_bitCount_0f7a4_8 ?_
  refine lv_eqi (nI (bc1 k)) (pk_sub (bc_s1 k)) ?_
  refine lv_istore_n (lv' := [(0, .int (nI (bc1 k)))]) hx hb dJ6_bitCount_0f7a4_9 rfl hl (by decide) rfl (fun ls hl => ?_)
  refine lv_iload_n hx hb dJ6_bitCount_0f7a4_10 rfl (lv_at hl 0 rfl) ?_
  refine lv_ldcw hx hb hown (hts (.constant RJ6 266 (858993459)) (List.mem_of_getElem? (i := 2) (by decide +kernel))) dJ6_bitCount_0f7a4_11 ?_
  refine lv_iand hx hb dJ6_bitCount_0f7a4_14 ?_
  refine lv_eqi (nI (bc1 k &&& 858993459)) (nI_and _ _) ?_
  refine lv_iload_n hx hb dJ6_bitCount_0f7a4_15 rfl (lv_at hl 0 rfl) ?_
  refine lv_iconst (v := 2) hx hb dJ6_bitCount_0f7a4_16 (by decide) ?_
  refine lv_iushr hx hb dJ6_bitCount_0f7a4_17 rfl ?_
  refine lv_eqi (nI (bc1 k / 2 ^ 2)) (pk_ushrN (by omega) 2 2 (by decide)) ?_
  refine lv_ldcw hx hb hown (hts (.constant RJ6 266 (858993459)) (List.mem_of_getElem? (i := 2) (by decide +kernel))) dJ6_bitCount_0f7a4_18 ?_
  refine lv_iand hx hb dJ6_bitCount_0f7a4_21 ?_
  refine lv_eqi (nI (bc1 k / 2 ^ 2 &&& 858993459)) (nI_and _ _) ?_
  refine lv_iadd hx hb dJ6_bitCount_0f7a4_22 ?_
  refine lv_eqi (nI (bc1 k &&& 858993459 + (bc1 k / 2 ^ 2 &&& 858993459))) ((nI_add (bc1 k &&& 858993459) (bc1 k / 2 ^ 2 &&& 858993459)).trans (congrArg nI (by omega))) ?_
  refine lv_eqi (nI (bc2 (bc1 k))) (rfl) ?_
  refine lv_istore_n (lv' := [(0, .int (nI (bc2 (bc1 k))))]) hx hb dJ6_bitCount_0f7a4_23 rfl hl (by decide) rfl (fun ls hl => ?_)
  refine lv_iload_n hx hb dJ6_bitCount_0f7a4_24 rfl (lv_at hl 0 rfl) ?_
  refine lv_iload_n hx hb dJ6_bitCount_0f7a4_25 rfl (lv_at hl 0 rfl) ?_
  refine lv_iconst (v := 4) hx hb dJ6_bitCount_0f7a4_26 (by decide) ?_
  refine lv_iushr hx hb dJ6_bitCount_0f7a4_27 rfl ?_
  refine lv_eqi (nI (bc2 (bc1 k) / 2 ^ 4)) (pk_ushrN (by omega) 4 4 (by decide)) ?_
  refine lv_iadd hx hb dJ6_bitCount_0f7a4_28 ?_
  refine lv_eqi (nI (bc2 (bc1 k) + (bc2 (bc1 k) / 2 ^ 4))) ((nI_add (bc2 (bc1 k)) (bc2 (bc1 k) / 2 ^ 4)).trans (congrArg nI (by omega))) ?_
  refine lv_ldcw hx hb hown (hts (.constant RJ6 267 (252645135)) (List.mem_of_getElem? (i := 3) (by decide +kernel))) dJ6_bitCount_0f7a4_29 ?_
  refine lv_iand hx hb dJ6_bitCount_0f7a4_32 ?_
  refine lv_eqi (nI (bc3 (bc2 (bc1 k)))) (nI_and _ _) ?_
  refine lv_istore_n (lv' := [(0, .int (nI (bc3 (bc2 (bc1 k)))))]) hx hb dJ6_bitCount_0f7a4_33 rfl hl (by decide) rfl (fun ls hl => ?_)
  refine lv_iload_n hx hb dJ6_bitCount_0f7a4_34 rfl (lv_at hl 0 rfl) ?_
  refine lv_iload_n hx hb dJ6_bitCount_0f7a4_35 rfl (lv_at hl 0 rfl) ?_
  refine lv_bipush (v := 8) hx hb dJ6_bitCount_0f7a4_36 (by decide) ?_
  refine lv_iushr hx hb dJ6_bitCount_0f7a4_38 rfl ?_
  refine lv_eqi (nI (bc3 (bc2 (bc1 k)) / 2 ^ 8)) (pk_ushrN (by omega) 8 8 (by decide)) ?_
  refine lv_iadd hx hb dJ6_bitCount_0f7a4_39 ?_
  refine lv_eqi (nI (bc3 (bc2 (bc1 k)) + (bc3 (bc2 (bc1 k)) / 2 ^ 8))) ((nI_add (bc3 (bc2 (bc1 k))) (bc3 (bc2 (bc1 k)) / 2 ^ 8)).trans (congrArg nI (by omega))) ?_
  refine lv_eqi (nI (bc4 (bc3 (bc2 (bc1 k))))) (rfl) ?_
  refine lv_istore_n (lv' := [(0, .int (nI (bc4 (bc3 (bc2 (bc1 k))))))]) hx hb dJ6_bitCount_0f7a4_40 rfl hl (by decide) rfl (fun ls hl => ?_)
  refine lv_iload_n hx hb dJ6_bitCount_0f7a4_41 rfl (lv_at hl 0 rfl) ?_
  refine lv_iload_n hx hb dJ6_bitCount_0f7a4_42 rfl (lv_at hl 0 rfl) ?_
  refine lv_bipush (v := 16) hx hb dJ6_bitCount_0f7a4_43 (by decide) ?_
  refine lv_iushr hx hb dJ6_bitCount_0f7a4_45 rfl ?_
  refine lv_eqi (nI (bc4 (bc3 (bc2 (bc1 k))) / 2 ^ 16)) (pk_ushrN (by omega) 16 16 (by decide)) ?_
  refine lv_iadd hx hb dJ6_bitCount_0f7a4_46 ?_
  refine lv_eqi (nI (bc4 (bc3 (bc2 (bc1 k))) + (bc4 (bc3 (bc2 (bc1 k))) / 2 ^ 16))) ((nI_add (bc4 (bc3 (bc2 (bc1 k)))) (bc4 (bc3 (bc2 (bc1 k))) / 2 ^ 16)).trans (congrArg nI (by omega))) ?_
  refine lv_eqi (nI (bc5 (bc4 (bc3 (bc2 (bc1 k)))))) (rfl) ?_
  refine lv_istore_n (lv' := [(0, .int (nI (bc5 (bc4 (bc3 (bc2 (bc1 k)))))))]) hx hb dJ6_bitCount_0f7a4_47 rfl hl (by decide) rfl (fun ls hl => ?_)
  refine lv_iload_n hx hb dJ6_bitCount_0f7a4_48 rfl (lv_at hl 0 rfl) ?_
  refine lv_bipush (v := 63) hx hb dJ6_bitCount_0f7a4_49 (by decide) ?_
  refine lv_iand hx hb dJ6_bitCount_0f7a4_51 ?_
  refine lv_eqi (nI (bcN k)) (nI_and _ _) ?_
  exact gR_iret (v := nI (bcN k)) hx hb hr hlk (rfl) hS (congrArg nI (bc_ok hk)) dJ6_bitCount_0f7a4_52

set_option maxHeartbeats 4000000 in
set_option maxRecDepth 100000 in
theorem c_X3_coded (l : Launch) (D : va_G) (K : Nat → ClassId) (x : Int32) (n : Nat) (hn1 : okN1 n) : MRi l yX3_coded wsX3_coded ({ frames := 0, cells := 0, slots := 0, locals := 0 } : Room) D (gTy K) [.int x, .int (nI n)] [] (fun r => r = cod x n) := by
  refine g_ofR (cc := cX3_coded) (maxL := 4) (ret := (some .int)) (own := RX3) (by decide) rfl rfl (Nat.le_of_ble_eq_true rfl) ?_
  intro pp ee s mm below meth cc hfx hK hP hE hS ls hl
  obtain ⟨hx, hb, hr, hml, hown, hts, hlk⟩ := hfx
  have hl : lv_has ls 4 [(3, .int 0), (2, .int (x &&& ((1 <<< ((nI n) &&& 31)) - 1))), (0, .int x), (1, .int (nI n))] := hl
  have hlg := lg_le hn1
  have hnl := hn1.le
  refine lv_iload_n hx hb dX3_coded_0 rfl (lv_at hl 0 rfl) ?_
  refine lv_iconst (v := 1) hx hb dX3_coded_1 (by decide) ?_
  refine lv_iload_n hx hb dX3_coded_2 rfl (lv_at hl 1 rfl) ?_
  refine lv_ishl hx hb dX3_coded_3 ?_
  refine lv_iconst (v := 1) hx hb dX3_coded_4 (by decide) ?_
  refine lv_isub hx hb dX3_coded_5 ?_
  refine lv_iand hx hb dX3_coded_6 ?_
  refine lv_istore_n (lv' := [(2, .int (x &&& ((1 <<< ((nI n) &&& 31)) - 1))), (0, .int x), (1, .int (nI n))]) hx hb dX3_coded_7 rfl hl (by decide) rfl (fun ls hl => ?_)
  refine lv_iconst (v := 0) hx hb dX3_coded_8 (by decide) ?_
  refine lv_istore_n (lv' := [(3, .int 0), (2, .int (x &&& ((1 <<< ((nI n) &&& 31)) - 1))), (0, .int x), (1, .int (nI n))]) hx hb dX3_coded_9 rfl hl (by decide) rfl (fun ls hl => ?_)
  refine g_loopW (st := []) (N := lg n) (fun i H locs ls => va_P D vwCl [] H ∧ va_S gNo s.heap H locs ∧ lv_has ls 4 [(3, .int (nI i)), (2, .int (codS (x &&& ((1 <<< (nI n &&& 31)) - 1)) i)), (0, .int x), (1, .int (nI n))]) 0 (Nat.zero_le _) ?_ ?_ ?_
  · intro H locs ls hI
    obtain ⟨hP, hS, hl⟩ := hI
    refine lv_iload_n hx hb dX3_coded_10 rfl (lv_at hl 0 rfl) ?_
    refine wa_tab hx hb hE hS g_tabF hown (hts (.fieldLink RX3 288 "PairedChannels" "FORMER_PLACES" "[I") (List.mem_of_getElem? (i := 1) (by decide +kernel))) dX3_coded_11 (fun t2 hTt2 => ?_)
    refine va_tlen (v := 4) hx hb hTt2 hS (by decide) dX3_coded_14 ?_
    refine lv_icmp_ge (tgt := 45) hx hb dX3_coded_15 (by decide) (fun c3 => ?_) (fun c3 => ?_)
    · skip
      have c3 : 4 ≤ lg n := (nI_leI (a := 4) (b := lg n) (by omega) (by omega)).mp c3
      refine lv_iload_n hx hb dX3_coded_45 rfl (lv_at hl 1 rfl) ?_
      exact gR_iret (v := codS (x &&& ((1 <<< (nI n &&& 31)) - 1)) lg n) hx hb hr hlk (rfl) hS (rfl) dX3_coded_46
    · skip
      have c3 : ¬ 4 ≤ lg n := fun h9 => c3 ((nI_leI (a := 4) (b := lg n) (by omega) (by omega)).mpr h9)
      refine lv_iconst (v := 1) hx hb dX3_coded_18 (by decide) ?_
      refine lv_iload_n hx hb dX3_coded_19 rfl (lv_at hl 0 rfl) ?_
      refine lv_ishl hx hb dX3_coded_20 ?_
      refine lv_eqi (nI (2 ^ (lg n))) (pow_l _ (by omega)) ?_
      refine lv_iload_n hx hb dX3_coded_21 rfl (lv_at hl 3 rfl) ?_
      refine lv_icmp_ge (tgt := 45) hx hb dX3_coded_22 (by decide) (fun c => ?_) (fun c => ?_)
      · skip
        have c : n ≤ 2 ^ (lg n) := (nI_leI (a := n) (b := 2 ^ (lg n)) (by omega) (by omega)).mp c
        refine lv_iload_n hx hb dX3_coded_45 rfl (lv_at hl 1 rfl) ?_
        exact gR_iret (v := codS (x &&& ((1 <<< (nI n &&& 31)) - 1)) lg n) hx hb hr hlk (rfl) hS (rfl) dX3_coded_46
      · skip
        have c : ¬ n ≤ 2 ^ (lg n) := fun h9 => c ((nI_leI (a := n) (b := 2 ^ (lg n)) (by omega) (by omega)).mpr h9)
        exact absurd (Nat.le_of_eq (lg_pow hn1)) c
  · intro i hi ih1 H locs ls hI
    obtain ⟨hP, hS, hl⟩ := hI
    have hpi : 2 ^ i < n := by rw [lg_pow hn1]; exact Nat.pow_lt_pow_right (by decide) hi
    refine lv_iload_n hx hb dX3_coded_10 rfl (lv_at hl 0 rfl) ?_
    refine wa_tab hx hb hE hS g_tabF hown (hts (.fieldLink RX3 288 "PairedChannels" "FORMER_PLACES" "[I") (List.mem_of_getElem? (i := 1) (by decide +kernel))) dX3_coded_11 (fun t5 hTt5 => ?_)
    refine va_tlen (v := 4) hx hb hTt5 hS (by decide) dX3_coded_14 ?_
    refine lv_icmp_ge (tgt := 45) hx hb dX3_coded_15 (by decide) (fun c6 => ?_) (fun c6 => ?_)
    · skip
      have c6 : 4 ≤ i := (nI_leI (a := 4) (b := i) (by omega) (by omega)).mp c6
      omega
    · skip
      have c6 : ¬ 4 ≤ i := fun h9 => c6 ((nI_leI (a := 4) (b := i) (by omega) (by omega)).mpr h9)
      refine lv_iconst (v := 1) hx hb dX3_coded_18 (by decide) ?_
      refine lv_iload_n hx hb dX3_coded_19 rfl (lv_at hl 0 rfl) ?_
      refine lv_ishl hx hb dX3_coded_20 ?_
      refine lv_eqi (nI (2 ^ i)) (pow_l _ (by omega)) ?_
      refine lv_iload_n hx hb dX3_coded_21 rfl (lv_at hl 3 rfl) ?_
      refine lv_icmp_ge (tgt := 45) hx hb dX3_coded_22 (by decide) (fun c => ?_) (fun c => ?_)
      · skip
        have c : n ≤ 2 ^ i := (nI_leI (a := n) (b := 2 ^ i) (by omega) (by omega)).mp c
        refine lv_iload_n hx hb dX3_coded_45 rfl (lv_at hl 1 rfl) ?_
        exact gR_iret (v := codS (x &&& ((1 <<< (nI n &&& 31)) - 1)) i) hx hb hr hlk (rfl) hS (rfl) dX3_coded_46
      · skip
        have c : ¬ n ≤ 2 ^ i := fun h9 => c ((nI_leI (a := n) (b := 2 ^ i) (by omega) (by omega)).mpr h9)
        refine lv_iload_n hx hb dX3_coded_25 rfl (lv_at hl 1 rfl) ?_
        refine lv_iload_n hx hb dX3_coded_26 rfl (lv_at hl 1 rfl) ?_
        refine lv_iconst (v := 1) hx hb dX3_coded_27 (by decide) ?_
        refine lv_iload_n hx hb dX3_coded_28 rfl (lv_at hl 0 rfl) ?_
        refine lv_ishl hx hb dX3_coded_29 ?_
        refine lv_ishr hx hb dX3_coded_30 ?_
        refine wa_tab hx hb hE hS g_tabF hown (hts (.fieldLink RX3 288 "PairedChannels" "FORMER_PLACES" "[I") (List.mem_of_getElem? (i := 1) (by decide +kernel))) dX3_coded_31 (fun t8 hTt8 => ?_)
        refine lv_iload_n hx hb dX3_coded_34 rfl (lv_at hl 0 rfl) ?_
        refine wa_tald hx hb hTt8 hS (i) rfl (by omega) dX3_coded_35 ?_
        refine lv_iand hx hb dX3_coded_36 ?_
        refine lv_ixor hx hb dX3_coded_37 ?_
        refine lv_istore_n (lv' := [(2, .int (codS (x &&& ((1 <<< (nI n &&& 31)) - 1)) i ^^^ (((codS (x &&& ((1 <<< (nI n &&& 31)) - 1)) i) >>> ((1 <<< ((nI i) &&& 31)) &&& 31)) &&& tF i))), (3, .int (nI i)), (0, .int x), (1, .int (nI n))]) hx hb dX3_coded_38 rfl hl (by decide) rfl (fun ls hl => ?_)
        refine lv_iinc (v := nI (i + 1)) (lv' := [(3, .int (nI (i + 1))), (2, .int (codS (x &&& ((1 <<< (nI n &&& 31)) - 1)) i ^^^ (((codS (x &&& ((1 <<< (nI n &&& 31)) - 1)) i) >>> ((1 <<< ((nI i) &&& 31)) &&& 31)) &&& tF i))), (0, .int x), (1, .int (nI n))]) hx hb dX3_coded_39 hl (k := 1) rfl (nI_add i 1) (by decide) rfl (fun ls hl => ?_)
        refine lv_goto (tgt := 10) hx hb dX3_coded_42 (by decide) ?_
        have e9 : (codS (x &&& ((1 <<< (nI n &&& 31)) - 1)) i ^^^ (((codS (x &&& ((1 <<< (nI n &&& 31)) - 1)) i) >>> ((1 <<< ((nI i) &&& 31)) &&& 31)) &&& tF i)) = (codS (x &&& ((1 <<< (nI n &&& 31)) - 1)) i + 1) := rfl
        rw [e9] at hl
        exact ih1 H locs ls ⟨hP, hS, lv_sub hl [0, 1, 2, 3] rfl⟩
  · exact ⟨hP, hS, lv_sub hl [0, 1, 2, 3] rfl⟩

set_option maxHeartbeats 4000000 in
set_option maxRecDepth 100000 in
theorem c_X3_checkNumber (l : Launch) (D : va_G) (K : Nat → ClassId) (x : Int32) (bd : Nat) (ck : Nat) (hbd : bd ≤ 16) : MRi l yX3_checkNumber wsX3_checkNumber ({ frames := 0, cells := 0, slots := 0, locals := 0 } : Room) D (gTy K) [.int x, .int (nI bd), .int (nI ck)] [] (fun r => r = chk x bd ck) := by
  refine g_ofR (cc := cX3_checkNumber) (maxL := 5) (ret := (some .int)) (own := RX3) (by decide) rfl rfl (Nat.le_of_ble_eq_true rfl) ?_
  intro pp ee s mm below meth cc hfx hK hP hE hS ls hl
  obtain ⟨hx, hb, hr, hml, hown, hts, hlk⟩ := hfx
  have hl : lv_has ls 5 [(4, .int 0), (3, .int 0), (0, .int x), (1, .int (nI bd)), (2, .int (nI ck))] := hl
  refine lv_iconst (v := 0) hx hb dX3_checkNumber_0 (by decide) ?_
  refine lv_istore_n (lv' := [(3, .int 0), (0, .int x), (1, .int (nI bd)), (2, .int (nI ck))]) hx hb dX3_checkNumber_1 rfl hl (by decide) rfl (fun ls hl => ?_)
  refine lv_iconst (v := 0) hx hb dX3_checkNumber_2 (by decide) ?_
  refine lv_istore (lv' := [(4, .int 0), (3, .int 0), (0, .int x), (1, .int (nI bd)), (2, .int (nI ck))]) hx hb dX3_checkNumber_3 hl (by decide) rfl (fun ls hl => ?_)
  refine g_loopW (st := []) (N := bd) (fun i H locs ls => va_P D vwCl [] H ∧ va_S gNo s.heap H locs ∧ lv_has ls 5 [(4, .int (nI i)), (3, .int (sumC x i)), (0, .int x), (1, .int (nI bd)), (2, .int (nI ck))]) 0 (Nat.zero_le _) ?_ ?_ ?_
  · intro H locs ls hI
    obtain ⟨hP, hS, hl⟩ := hI
    refine lv_iload hx hb dX3_checkNumber_5 (lv_at hl 0 rfl) ?_
    refine lv_iload_n hx hb dX3_checkNumber_7 rfl (lv_at hl 3 rfl) ?_
    refine lv_icmp_ge (tgt := 31) hx hb dX3_checkNumber_8 (by decide) (fun c2 => ?_) (fun c2 => ?_)
    · skip
      have c2 : bd ≤ bd := (nI_leI (a := bd) (b := bd) (by omega) (by omega)).mp c2
      refine lv_iload_n hx hb dX3_checkNumber_31 rfl (lv_at hl 1 rfl) ?_
      refine lv_iconst (v := 1) hx hb dX3_checkNumber_32 (by decide) ?_
      refine lv_iload_n hx hb dX3_checkNumber_33 rfl (lv_at hl 4 rfl) ?_
      refine lv_ishl hx hb dX3_checkNumber_34 ?_
      refine lv_iconst (v := 1) hx hb dX3_checkNumber_35 (by decide) ?_
      refine lv_isub hx hb dX3_checkNumber_36 ?_
      refine lv_iand hx hb dX3_checkNumber_37 ?_
      exact gR_iret (v := (sumC x bd &&& ((1 <<< ((nI ck) &&& 31)) - 1))) hx hb hr hlk (rfl) hS (rfl) dX3_checkNumber_38
    · skip
      have c2 : ¬ bd ≤ bd := fun h9 => c2 ((nI_leI (a := bd) (b := bd) (by omega) (by omega)).mpr h9)
      omega
  · intro i hi ih1 H locs ls hI
    obtain ⟨hP, hS, hl⟩ := hI
    refine lv_iload hx hb dX3_checkNumber_5 (lv_at hl 0 rfl) ?_
    refine lv_iload_n hx hb dX3_checkNumber_7 rfl (lv_at hl 3 rfl) ?_
    refine lv_icmp_ge (tgt := 31) hx hb dX3_checkNumber_8 (by decide) (fun c3 => ?_) (fun c3 => ?_)
    · skip
      have c3 : bd ≤ i := (nI_leI (a := bd) (b := i) (by omega) (by omega)).mp c3
      omega
    · skip
      have c3 : ¬ bd ≤ i := fun h9 => c3 ((nI_leI (a := bd) (b := i) (by omega) (by omega)).mpr h9)
      refine lv_iload_n hx hb dX3_checkNumber_11 rfl (lv_at hl 1 rfl) ?_
      refine lv_iload_n hx hb dX3_checkNumber_12 rfl (lv_at hl 2 rfl) ?_
      refine lv_iload hx hb dX3_checkNumber_13 (lv_at hl 0 rfl) ?_
      refine lv_ishr hx hb dX3_checkNumber_15 ?_
      refine lv_iconst (v := 1) hx hb dX3_checkNumber_16 (by decide) ?_
      refine lv_iand hx hb dX3_checkNumber_17 ?_
      refine lv_eqi (bitI x i) rfl ?_
      refine lv_iload hx hb dX3_checkNumber_18 (lv_at hl 0 rfl) ?_
      refine lv_iconst (v := 1) hx hb dX3_checkNumber_20 (by decide) ?_
      refine lv_iadd hx hb dX3_checkNumber_21 ?_
      refine lv_eqi (nI (i + 1)) (nI_add i 1) ?_
      refine lv_imul hx hb dX3_checkNumber_22 ?_
      refine lv_iadd hx hb dX3_checkNumber_23 ?_
      refine lv_istore_n (lv' := [(3, .int (sumC x i + (bitI x i * nI (i + 1)))), (4, .int (nI i)), (0, .int x), (1, .int (nI bd)), (2, .int (nI ck))]) hx hb dX3_checkNumber_24 rfl hl (by decide) rfl (fun ls hl => ?_)
      refine lv_iinc (v := nI (i + 1)) (lv' := [(4, .int (nI (i + 1))), (3, .int (sumC x i + (bitI x i * nI (i + 1)))), (0, .int x), (1, .int (nI bd)), (2, .int (nI ck))]) hx hb dX3_checkNumber_25 hl (k := 1) rfl (nI_add i 1) (by decide) rfl (fun ls hl => ?_)
      refine lv_goto (tgt := 5) hx hb dX3_checkNumber_28 (by decide) ?_
      have e9 : (sumC x i + (bitI x i * nI (i + 1))) = (sumC x i + 1) := rfl
      rw [e9] at hl
      exact ih1 H locs ls ⟨hP, hS, lv_sub hl [0, 1, 2, 3, 4] rfl⟩
  · exact ⟨hP, hS, lv_sub hl [0, 1, 2, 3, 4] rfl⟩

set_option maxHeartbeats 4000000 in
set_option maxRecDepth 100000 in
theorem c_X2_isOpen (l : Launch) (D : va_G) (K : Nat → ClassId) (h0 : Nat) (hv : Nat) (hs : Nat) (n : Nat) (mask : Int32) (pl : Nat)  : MRi l yX2_isOpen wsX2_isOpen ({ frames := 0, cells := 0, slots := 0, locals := 0 } : Room) D (gTy K) [.ref h0, .int (nI pl)] [(h0, .inr (2, [.ref hv, .ref hs, .int (nI n), .int mask]))] (fun r => r = (if opn mask pl then 1 else 0)) := by
  refine g_ofR (cc := cX2_isOpen) (maxL := 2) (ret := (some .boolean)) (own := RX2) (by decide) rfl rfl (Nat.le_of_ble_eq_true rfl) ?_
  intro pp ee s mm below meth cc hfx hK hP hE hS ls hl
  obtain ⟨hx, hb, hr, hml, hown, hts, hlk⟩ := hfx
  have hl : lv_has ls 2 [(0, .ref h0), (1, .int (nI pl))] := hl
  have hi2 : ∀ w ∈ u_ws RX2 TX2 4, w ∈ wsX2_isOpen := fun w h => List.mem_cons_of_mem _ (List.mem_append_right _ (h))
  refine lv_aload_n hx hb dX2_isOpen_0 rfl (lv_at hl 0 rfl) ?_
  refine va_get (D := D) (ci := 2) (v := .int mask) (C := RX2) (T := TX2) (N := 4) hx hb hts hi2 hown hK hP 0 rfl rfl 3 (by decide) (hts (.fieldLink RX2 28 "PairedChannels$Word" "openMask" "I") (List.mem_of_getElem? (i := 1) (by decide +kernel))) (fun _ h9 => h9) rfl dX2_isOpen_1 ?_
  refine lv_iload_n hx hb dX2_isOpen_4 rfl (lv_at hl 1 rfl) ?_
  refine lv_ishr hx hb dX2_isOpen_5 ?_
  refine lv_iconst (v := 1) hx hb dX2_isOpen_6 (by decide) ?_
  refine lv_iand hx hb dX2_isOpen_7 ?_
  refine lv_eqi (bitI mask pl) rfl ?_
  refine lv_iconst (v := 1) hx hb dX2_isOpen_8 (by decide) ?_
  refine g_cut (F0 mm 17 ls [.int (if bitI mask pl = 1 then 1 else 0)]) (fun hJ => ?_) ?_
  · refine lv_icmp_ne (tgt := 16) hx hb dX2_isOpen_9 (by decide) (fun c1 => ?_) (fun c1 => ?_)
    · skip
      refine lv_iconst (v := 0) hx hb dX2_isOpen_16 (by decide) ?_
      rw [if_neg (fun h => h c1)] at hJ
      exact hJ
    · skip
      refine lv_iconst (v := 1) hx hb dX2_isOpen_12 (by decide) ?_
      refine lv_goto (tgt := 17) hx hb dX2_isOpen_13 (by decide) ?_
      rw [if_pos (by first | exact c1 | exact Decidable.not_not.mp c1 | exact (by simpa using c1))] at hJ
      exact hJ
  · skip
    exact gR_iret (v := (if bitI mask pl = 1 then 1 else 0)) hx hb hr hlk (nar_b _) hS (rfl) dX2_isOpen_17

set_option maxHeartbeats 4000000 in
set_option maxRecDepth 100000 in
theorem c_X2_hasPlace (l : Launch) (D : va_G) (K : Nat → ClassId) (h0 : Nat) (hv : Nat) (hs : Nat) (n : Nat) (mask : Int32) (q : Int32)  : MRi l yX2_hasPlace wsX2_hasPlace ({ frames := 0, cells := 0, slots := 0, locals := 0 } : Room) D (gTy K) [.ref h0, .int q] [(h0, .inr (2, [.ref hv, .ref hs, .int (nI n), .int mask]))] (fun r => r = (if 0 ≤ q ∧ q < nI n then 1 else 0)) := by
  refine g_ofR (cc := cX2_hasPlace) (maxL := 2) (ret := (some .boolean)) (own := RX2) (by decide) rfl rfl (Nat.le_of_ble_eq_true rfl) ?_
  intro pp ee s mm below meth cc hfx hK hP hE hS ls hl
  obtain ⟨hx, hb, hr, hml, hown, hts, hlk⟩ := hfx
  have hl : lv_has ls 2 [(0, .ref h0), (1, .int q)] := hl
  have hi2 : ∀ w ∈ u_ws RX2 TX2 4, w ∈ wsX2_hasPlace := fun w h => List.mem_cons_of_mem _ (List.mem_append_right _ (h))
  refine lv_iload_n hx hb dX2_hasPlace_0 rfl (lv_at hl 1 rfl) ?_
  refine lv_if_lt (tgt := 16) hx hb dX2_hasPlace_1 (by decide) (fun c1 => ?_) (fun c1 => ?_)
  · skip
    refine lv_iconst (v := 0) hx hb dX2_hasPlace_16 (by decide) ?_
    exact gR_iret (v := 0) hx hb hr hlk (rfl) hS (by first | exact in_t c1 c2 | exact in_f1 c1 | exact in_f2 c2) dX2_hasPlace_17
  · skip
    refine lv_iload_n hx hb dX2_hasPlace_4 rfl (lv_at hl 1 rfl) ?_
    refine lv_aload_n hx hb dX2_hasPlace_5 rfl (lv_at hl 0 rfl) ?_
    refine va_get (D := D) (ci := 2) (v := .int (nI n)) (C := RX2) (T := TX2) (N := 4) hx hb hts hi2 hown hK hP 0 rfl rfl 2 (by decide) (hts (.fieldLink RX2 18 "PairedChannels$Word" "places" "I") (List.mem_of_getElem? (i := 1) (by decide +kernel))) (fun _ h9 => h9) rfl dX2_hasPlace_6 ?_
    refine lv_icmp_ge (tgt := 16) hx hb dX2_hasPlace_9 (by decide) (fun c2 => ?_) (fun c2 => ?_)
    · skip
      refine lv_iconst (v := 0) hx hb dX2_hasPlace_16 (by decide) ?_
      exact gR_iret (v := 0) hx hb hr hlk (rfl) hS (by first | exact in_t c1 c2 | exact in_f1 c1 | exact in_f2 c2) dX2_hasPlace_17
    · skip
      refine lv_iconst (v := 1) hx hb dX2_hasPlace_12 (by decide) ?_
      refine lv_goto (tgt := 17) hx hb dX2_hasPlace_13 (by decide) ?_
      exact gR_iret (v := 1) hx hb hr hlk (rfl) hS (by first | exact in_t c1 c2 | exact in_f1 c1 | exact in_f2 c2) dX2_hasPlace_17

set_option maxHeartbeats 4000000 in
set_option maxRecDepth 100000 in
theorem c_X2_openPlaces (l : Launch) (D : va_G) (K : Nat → ClassId) (h0 : Nat) (hv : Nat) (hs : Nat) (n : Nat) (mask : Int32) (hn : okN n) (hm : okM mask n) : MRi l yX2_openPlaces wsX2_openPlaces ({ frames := 1, cells := 0, slots := 0, locals := 20 } : Room) D (gTy K) [.ref h0] [(h0, .inr (2, [.ref hv, .ref hs, .int (nI n), .int mask]))] (fun r => r = nI (cntO mask n)) := by
  refine g_ofR (cc := cX2_openPlaces) (maxL := 1) (ret := (some .int)) (own := RX2) (by decide) rfl rfl (Nat.le_of_ble_eq_true rfl) ?_
  intro pp ee s mm below meth cc hfx hK hP hE hS ls hl
  obtain ⟨hx, hb, hr, hml, hown, hts, hlk⟩ := hfx
  have hl : lv_has ls 1 [(0, .ref h0)] := hl
  have hi2 : ∀ w ∈ u_ws RX2 TX2 4, w ∈ wsX2_openPlaces := fun w h => List.mem_cons_of_mem _ (List.mem_append_right _ (h))
  refine lv_aload_n hx hb dX2_openPlaces_0 rfl (lv_at hl 0 rfl) ?_
  refine va_get (D := D) (ci := 2) (v := .int mask) (C := RX2) (T := TX2) (N := 4) hx hb hts hi2 hown hK hP 0 rfl rfl 3 (by decide) (hts (.fieldLink RX2 28 "PairedChannels$Word" "openMask" "I") (List.mem_of_getElem? (i := 1) (by decide +kernel))) (fun _ h9 => h9) rfl dX2_openPlaces_1 ?_
  obtain ⟨k, hk, h6, ek⟩ := hm.N hn
  refine lv_eqi (nI k) (ek) ?_
  refine gR_i (va_runS (As := [.int (nI k)]) (rest := []) ⟨hx, hb, hml, hown, hts⟩ (c_J6_bitCount_0f7a4 l D K k (by first | assumption | omega)) (va_cwS 1 hts gX2_openPlaces_J6_bitCount_0f7a4 rfl rfl rfl (by decide +kernel) ⟨Nat.le_of_ble_eq_true rfl, Nat.le_of_ble_eq_true rfl⟩) (gR_pre hE hS hK hP [] rfl) rfl rfl hl.1 rfl (lv_room (Nat.le_of_ble_eq_true rfl)) dX2_openPlaces_4 ⟨Nat.le_of_ble_eq_true rfl, Nat.le_of_ble_eq_true rfl⟩) hS hP (fun rv2 H locs h1 hP hS => ?_)
  have h1 : rv2 = nI (cntO (nI k) 16) := h1
  subst h1
  exact gR_iret (v := nI (cntO (nI k) 16)) hx hb hr hlk (rfl) hS (by rw [← ek, cntO_all hm hn]) dX2_openPlaces_7

set_option maxHeartbeats 4000000 in
set_option maxRecDepth 100000 in
theorem c_X2_openPlacesBefore (l : Launch) (D : va_G) (K : Nat → ClassId) (h0 : Nat) (hv : Nat) (hs : Nat) (n : Nat) (mask : Int32) (pl : Nat) (hn : okN n) (hm : okM mask n) (hp : pl ≤ 16) : MRi l yX2_openPlacesBefore wsX2_openPlacesBefore ({ frames := 1, cells := 0, slots := 0, locals := 20 } : Room) D (gTy K) [.ref h0, .int (nI pl)] [(h0, .inr (2, [.ref hv, .ref hs, .int (nI n), .int mask]))] (fun r => r = nI (cntO mask pl)) := by
  refine g_ofR (cc := cX2_openPlacesBefore) (maxL := 2) (ret := (some .int)) (own := RX2) (by decide) rfl rfl (Nat.le_of_ble_eq_true rfl) ?_
  intro pp ee s mm below meth cc hfx hK hP hE hS ls hl
  obtain ⟨hx, hb, hr, hml, hown, hts, hlk⟩ := hfx
  have hl : lv_has ls 2 [(0, .ref h0), (1, .int (nI pl))] := hl
  have hi2 : ∀ w ∈ u_ws RX2 TX2 4, w ∈ wsX2_openPlacesBefore := fun w h => List.mem_cons_of_mem _ (List.mem_append_right _ (h))
  obtain ⟨k, hk, h6, ek⟩ := hm.N hn
  refine lv_aload_n hx hb dX2_openPlacesBefore_0 rfl (lv_at hl 0 rfl) ?_
  refine va_get (D := D) (ci := 2) (v := .int mask) (C := RX2) (T := TX2) (N := 4) hx hb hts hi2 hown hK hP 0 rfl rfl 3 (by decide) (hts (.fieldLink RX2 28 "PairedChannels$Word" "openMask" "I") (List.mem_of_getElem? (i := 1) (by decide +kernel))) (fun _ h9 => h9) rfl dX2_openPlacesBefore_1 ?_
  refine lv_iconst (v := 1) hx hb dX2_openPlacesBefore_4 (by decide) ?_
  refine lv_iload_n hx hb dX2_openPlacesBefore_5 rfl (lv_at hl 1 rfl) ?_
  refine lv_ishl hx hb dX2_openPlacesBefore_6 ?_
  refine lv_iconst (v := 1) hx hb dX2_openPlacesBefore_7 (by decide) ?_
  refine lv_isub hx hb dX2_openPlacesBefore_8 ?_
  refine lv_iand hx hb dX2_openPlacesBefore_9 ?_
  refine lv_eqi (nI (k % 2 ^ pl)) (by rw [ek]; exact low_N k (by omega)) ?_
  refine gR_i (va_runS (As := [.int (nI (k % 2 ^ pl))]) (rest := []) ⟨hx, hb, hml, hown, hts⟩ (c_J6_bitCount_0f7a4 l D K (k % 2 ^ pl) (Nat.lt_of_le_of_lt (Nat.mod_le _ _) h6)) (va_cwS 1 hts gX2_openPlacesBefore_J6_bitCount_0f7a4 rfl rfl rfl (by decide +kernel) ⟨Nat.le_of_ble_eq_true rfl, Nat.le_of_ble_eq_true rfl⟩) (gR_pre hE hS hK hP [] rfl) rfl rfl hl.1 rfl (lv_room (Nat.le_of_ble_eq_true rfl)) dX2_openPlacesBefore_10 ⟨Nat.le_of_ble_eq_true rfl, Nat.le_of_ble_eq_true rfl⟩) hS hP (fun rv2 H locs h1 hP hS => ?_)
  have h1 : rv2 = nI (cntO (nI (k % 2 ^ pl)) 16) := h1
  subst h1
  exact gR_iret (v := nI (cntO (nI (k % 2 ^ pl)) 16)) hx hb hr hlk (rfl) hS (by rw [cntO_low h6 hp, ← ek]) dX2_openPlacesBefore_13

set_option maxHeartbeats 4000000 in
set_option maxRecDepth 100000 in
theorem c_X2_checkBits (l : Launch) (D : va_G) (K : Nat → ClassId) (h0 : Nat) (hv : Nat) (hs : Nat) (n : Nat) (mask : Int32) (sf : Nat → Int32) (hn : okN n) (hm : okM mask n) (hsf : okS sf) : MRi l yX2_checkBits wsX2_checkBits ({ frames := 2, cells := 0, slots := 0, locals := 40 } : Room) D (gTy K) [.ref h0] [(h0, .inr (2, [.ref hv, .ref hs, .int (nI n), .int mask])), (hs, .inl (K 0, 4, .inl sf))] (fun r => r = nI (ckB mask n sf)) := by
  refine g_ofR (cc := cX2_checkBits) (maxL := 1) (ret := (some .int)) (own := RX2) (by decide) rfl rfl (Nat.le_of_ble_eq_true rfl) ?_
  intro pp ee s mm below meth cc hfx hK hP hE hS ls hl
  obtain ⟨hx, hb, hr, hml, hown, hts, hlk⟩ := hfx
  have hl : lv_has ls 1 [(0, .ref h0)] := hl
  have hi2 : ∀ w ∈ u_ws RX2 TX2 4, w ∈ wsX2_checkBits := fun w h => List.mem_cons_of_mem _ (List.mem_append_right _ (h))
  refine lv_aload_n hx hb dX2_checkBits_0 rfl (lv_at hl 0 rfl) ?_
  refine va_get (D := D) (ci := 2) (v := .ref hs) (C := RX2) (T := TX2) (N := 4) hx hb hts hi2 hown hK hP 0 rfl rfl 1 (by decide) (hts (.fieldLink RX2 15 "PairedChannels$Word" "settings" "[I") (List.mem_of_getElem? (i := 1) (by decide +kernel))) (fun _ h9 => h9) rfl dX2_checkBits_1 ?_
  refine lv_iconst (v := 2) hx hb dX2_checkBits_4 (by decide) ?_
  refine wa_iald hx hb hK hP 1 0 rfl rfl (2) rfl (by omega) (by decide) dX2_checkBits_5 ?_
  refine lv_aload_n hx hb dX2_checkBits_6 rfl (lv_at hl 0 rfl) ?_
  refine gR_i (va_runV (As := []) (rest := [.int (sf 2)]) ⟨hx, hb, hml, hown, hts⟩ (c_X2_openPlaces l D K h0 hv hs n mask (by first | assumption | omega) (by first | assumption | omega)) (cwV 0 hts gX2_checkBits_X2_openPlaces rfl rfl rfl (by decide +kernel) ⟨Nat.le_of_ble_eq_true rfl, Nat.le_of_ble_eq_true rfl⟩) (gR_preV hE hS hK hP [0] rfl 0 rfl rfl rfl) rfl rfl hl.1 rfl (lv_room (Nat.le_of_ble_eq_true rfl)) dX2_checkBits_7 ⟨Nat.le_of_ble_eq_true rfl, Nat.le_of_ble_eq_true rfl⟩) hS hP (fun rv2 H locs h1 hP hS => ?_)
  have h1 : rv2 = nI (cntO mask n) := h1
  subst h1
  refine va_mmin hx hb (hml.trans hl.1.symm) hown (hts (.methodLink RX2 41 Lib.Math.min.name) (List.mem_of_getElem? (i := 2) (by decide +kernel))) (hts (.static Lib.Math.min.name) (List.mem_of_getElem? (i := 3) (by decide +kernel))) (hts (.initialized "java/lang/Math") (List.mem_of_getElem? (i := 4) (by decide +kernel))) (hts (.code Lib.Math.min.name Lib.Math.min.code 2 (some .int)) (List.mem_of_getElem? (i := 5) (by decide +kernel))) (Nat.le_of_ble_eq_true rfl) (Nat.le_of_ble_eq_true rfl) (Nat.zero_le _) (Nat.zero_le _) dX2_checkBits_10 ?_
  refine lv_eqi (nI (ckB mask n sf)) (ck_min hsf hn.le.2) ?_
  exact gR_iret (v := nI (ckB mask n sf)) hx hb hr hlk (rfl) hS (rfl) dX2_checkBits_13

set_option maxHeartbeats 4000000 in
set_option maxRecDepth 100000 in
theorem c_X2_bodyBits (l : Launch) (D : va_G) (K : Nat → ClassId) (h0 : Nat) (hv : Nat) (hs : Nat) (n : Nat) (mask : Int32) (sf : Nat → Int32) (hn : okN n) (hm : okM mask n) (hsf : okS sf) : MRi l yX2_bodyBits wsX2_bodyBits ({ frames := 3, cells := 0, slots := 0, locals := 60 } : Room) D (gTy K) [.ref h0] [(h0, .inr (2, [.ref hv, .ref hs, .int (nI n), .int mask])), (hs, .inl (K 0, 4, .inl sf))] (fun r => r = nI (bdB mask n sf)) := by
  refine g_ofR (cc := cX2_bodyBits) (maxL := 1) (ret := (some .int)) (own := RX2) (by decide) rfl rfl (Nat.le_of_ble_eq_true rfl) ?_
  intro pp ee s mm below meth cc hfx hK hP hE hS ls hl
  obtain ⟨hx, hb, hr, hml, hown, hts, hlk⟩ := hfx
  have hl : lv_has ls 1 [(0, .ref h0)] := hl
  refine lv_aload_n hx hb dX2_bodyBits_0 rfl (lv_at hl 0 rfl) ?_
  refine gR_i (va_runV (As := []) (rest := []) ⟨hx, hb, hml, hown, hts⟩ (c_X2_openPlaces l D K h0 hv hs n mask (by first | assumption | omega) (by first | assumption | omega)) (cwV 0 hts gX2_bodyBits_X2_openPlaces rfl rfl rfl (by decide +kernel) ⟨Nat.le_of_ble_eq_true rfl, Nat.le_of_ble_eq_true rfl⟩) (gR_preV hE hS hK hP [0] rfl 0 rfl rfl rfl) rfl rfl hl.1 rfl (lv_room (Nat.le_of_ble_eq_true rfl)) dX2_bodyBits_1 ⟨Nat.le_of_ble_eq_true rfl, Nat.le_of_ble_eq_true rfl⟩) hS hP (fun rv2 H locs h1 hP hS => ?_)
  have h1 : rv2 = nI (cntO mask n) := h1
  subst h1
  refine lv_aload_n hx hb dX2_bodyBits_4 rfl (lv_at hl 0 rfl) ?_
  refine gR_i (va_runV (As := []) (rest := [.int (nI (cntO mask n))]) ⟨hx, hb, hml, hown, hts⟩ (c_X2_checkBits l D K h0 hv hs n mask sf (by first | assumption | omega) (by first | assumption | omega) (by first | assumption | omega)) (cwV 0 hts gX2_bodyBits_X2_checkBits rfl rfl rfl (by decide +kernel) ⟨Nat.le_of_ble_eq_true rfl, Nat.le_of_ble_eq_true rfl⟩) (gR_preV hE hS hK hP [0, 1] rfl 0 rfl rfl rfl) rfl rfl hl.1 rfl (lv_room (Nat.le_of_ble_eq_true rfl)) dX2_bodyBits_5 ⟨Nat.le_of_ble_eq_true rfl, Nat.le_of_ble_eq_true rfl⟩) hS hP (fun rv4 H locs h3 hP hS => ?_)
  have h3 : rv4 = nI (ckB mask n sf) := h3
  subst h3
  refine lv_isub hx hb dX2_bodyBits_8 ?_
  refine lv_eqi (nI (bdB mask n sf)) (pk_sub (ckB_le mask n sf)) ?_
  exact gR_iret (v := nI (bdB mask n sf)) hx hb hr hlk (rfl) hS (rfl) dX2_bodyBits_9

set_option maxHeartbeats 4000000 in
set_option maxRecDepth 100000 in
theorem c_X2_isForCheckBit (l : Launch) (D : va_G) (K : Nat → ClassId) (h0 : Nat) (hv : Nat) (hs : Nat) (n : Nat) (mask : Int32) (sf : Nat → Int32) (pl : Nat) (hn : okN n) (hm : okM mask n) (hsf : okS sf) (hp : pl ≤ 16) : MRi l yX2_isForCheckBit wsX2_isForCheckBit ({ frames := 4, cells := 0, slots := 0, locals := 80 } : Room) D (gTy K) [.ref h0, .int (nI pl)] [(h0, .inr (2, [.ref hv, .ref hs, .int (nI n), .int mask])), (hs, .inl (K 0, 4, .inl sf))] (fun r => r = (if opn mask pl ∧ bdB mask n sf ≤ cntO mask pl then 1 else 0)) := by
  refine g_ofR (cc := cX2_isForCheckBit) (maxL := 2) (ret := (some .boolean)) (own := RX2) (by decide) rfl rfl (Nat.le_of_ble_eq_true rfl) ?_
  intro pp ee s mm below meth cc hfx hK hP hE hS ls hl
  obtain ⟨hx, hb, hr, hml, hown, hts, hlk⟩ := hfx
  have hl : lv_has ls 2 [(0, .ref h0), (1, .int (nI pl))] := hl
  have h16 := hn.le
  have hc1 := cntO_le mask pl
  have hb1 := bdB_le mask n sf
  refine lv_aload_n hx hb dX2_isForCheckBit_0 rfl (lv_at hl 0 rfl) ?_
  refine lv_iload_n hx hb dX2_isForCheckBit_1 rfl (lv_at hl 1 rfl) ?_
  refine gR_i (va_runV (As := [.int (nI pl)]) (rest := []) ⟨hx, hb, hml, hown, hts⟩ (c_X2_isOpen l D K h0 hv hs n mask pl ) (cwV 1 hts gX2_isForCheckBit_X2_isOpen rfl rfl rfl (by decide +kernel) ⟨Nat.le_of_ble_eq_true rfl, Nat.le_of_ble_eq_true rfl⟩) (gR_preV hE hS hK hP [0] rfl 0 rfl rfl rfl) rfl rfl hl.1 rfl (lv_room (Nat.le_of_ble_eq_true rfl)) dX2_isForCheckBit_2 ⟨Nat.le_of_ble_eq_true rfl, Nat.le_of_ble_eq_true rfl⟩) hS hP (fun rv2 H locs h1 hP hS => ?_)
  have h1 : rv2 = (if opn mask pl then 1 else 0) := h1
  subst h1
  refine lv_if_eq (tgt := 24) hx hb dX2_isForCheckBit_5 (by decide) (fun c1 => ?_) (fun c1 => ?_)
  · skip
    have c1 : ¬ (opn mask pl) := b_eq0 c1
    refine lv_iconst (v := 0) hx hb dX2_isForCheckBit_24 (by decide) ?_
    exact gR_iret (v := 0) hx hb hr hlk (rfl) hS (by first | rw [if_pos ⟨c1, c2⟩] | rw [if_pos ⟨c1, by omega⟩] | rw [if_neg (fun h => c1 h.1)] | rw [if_neg (fun h => c2 h.2)] | rw [if_neg (fun h => absurd h.2 (by omega))]) dX2_isForCheckBit_25
  · skip
    have c1 : opn mask pl := b_ne0 c1
    refine lv_aload_n hx hb dX2_isForCheckBit_8 rfl (lv_at hl 0 rfl) ?_
    refine lv_iload_n hx hb dX2_isForCheckBit_9 rfl (lv_at hl 1 rfl) ?_
    refine gR_i (va_runV (As := [.int (nI pl)]) (rest := []) ⟨hx, hb, hml, hown, hts⟩ (c_X2_openPlacesBefore l D K h0 hv hs n mask pl (by first | assumption | omega) (by first | assumption | omega) (by first | assumption | omega)) (cwV 1 hts gX2_isForCheckBit_X2_openPlacesBefore rfl rfl rfl (by decide +kernel) ⟨Nat.le_of_ble_eq_true rfl, Nat.le_of_ble_eq_true rfl⟩) (gR_preV hE hS hK hP [0] rfl 0 rfl rfl rfl) rfl rfl hl.1 rfl (lv_room (Nat.le_of_ble_eq_true rfl)) dX2_isForCheckBit_10 ⟨Nat.le_of_ble_eq_true rfl, Nat.le_of_ble_eq_true rfl⟩) hS hP (fun rv5 H locs h4 hP hS => ?_)
    have h4 : rv5 = nI (cntO mask pl) := h4
    subst h4
    refine lv_aload_n hx hb dX2_isForCheckBit_13 rfl (lv_at hl 0 rfl) ?_
    refine gR_i (va_runV (As := []) (rest := [.int (nI (cntO mask pl))]) ⟨hx, hb, hml, hown, hts⟩ (c_X2_bodyBits l D K h0 hv hs n mask sf (by first | assumption | omega) (by first | assumption | omega) (by first | assumption | omega)) (cwV 0 hts gX2_isForCheckBit_X2_bodyBits rfl rfl rfl (by decide +kernel) ⟨Nat.le_of_ble_eq_true rfl, Nat.le_of_ble_eq_true rfl⟩) (gR_preV hE hS hK hP [0, 1] rfl 0 rfl rfl rfl) rfl rfl hl.1 rfl (lv_room (Nat.le_of_ble_eq_true rfl)) dX2_isForCheckBit_14 ⟨Nat.le_of_ble_eq_true rfl, Nat.le_of_ble_eq_true rfl⟩) hS hP (fun rv7 H locs h6 hP hS => ?_)
    have h6 : rv7 = nI (bdB mask n sf) := h6
    subst h6
    refine lv_icmp_lt (tgt := 24) hx hb dX2_isForCheckBit_17 (by decide) (fun c2 => ?_) (fun c2 => ?_)
    · skip
      have c2 : cntO mask pl < bdB mask n sf := (nI_ltI (a := cntO mask pl) (b := bdB mask n sf) (by omega) (by omega)).mp c2
      refine lv_iconst (v := 0) hx hb dX2_isForCheckBit_24 (by decide) ?_
      exact gR_iret (v := 0) hx hb hr hlk (rfl) hS (by first | rw [if_pos ⟨c1, c2⟩] | rw [if_pos ⟨c1, by omega⟩] | rw [if_neg (fun h => c1 h.1)] | rw [if_neg (fun h => c2 h.2)] | rw [if_neg (fun h => absurd h.2 (by omega))]) dX2_isForCheckBit_25
    · skip
      have c2 : ¬ cntO mask pl < bdB mask n sf := fun h9 => c2 ((nI_ltI (a := cntO mask pl) (b := bdB mask n sf) (by omega) (by omega)).mpr h9)
      refine lv_iconst (v := 1) hx hb dX2_isForCheckBit_20 (by decide) ?_
      refine lv_goto (tgt := 25) hx hb dX2_isForCheckBit_21 (by decide) ?_
      exact gR_iret (v := 1) hx hb hr hlk (rfl) hS (by first | rw [if_pos ⟨c1, c2⟩] | rw [if_pos ⟨c1, by omega⟩] | rw [if_neg (fun h => c1 h.1)] | rw [if_neg (fun h => c2 h.2)] | rw [if_neg (fun h => absurd h.2 (by omega))]) dX2_isForCheckBit_25

set_option maxHeartbeats 4000000 in
set_option maxRecDepth 100000 in
theorem c_X2_unsureness (l : Launch) (D : va_G) (K : Nat → ClassId) (h0 : Nat) (hv : Nat) (hs : Nat) (n : Nat) (mask : Int32) (sf : Nat → Int32) (pl : Nat) (hn : okN n) (hp : pl < 16) : MRi l yX2_unsureness wsX2_unsureness ({ frames := 0, cells := 0, slots := 0, locals := 0 } : Room) D (gTy K) [.ref h0, .int (nI pl)] [(h0, .inr (2, [.ref hv, .ref hs, .int (nI n), .int mask])), (hs, .inl (K 0, 4, .inl sf))] (fun r => r = uns sf n pl) := by
  refine g_ofR (cc := cX2_unsureness) (maxL := 7) (ret := (some .int)) (own := RX2) (by decide) rfl rfl (Nat.le_of_ble_eq_true rfl) ?_
  intro pp ee s mm below meth cc hfx hK hP hE hS ls hl
  obtain ⟨hx, hb, hr, hml, hown, hts, hlk⟩ := hfx
  have hl : lv_has ls 7 [(4, .int (nI (n / 2))), (2, .long (((sf 0).toInt64) * 1000)), (0, .ref h0), (1, .int (nI pl))] := hl
  have hi2 : ∀ w ∈ u_ws RX2 TX2 4, w ∈ wsX2_unsureness := fun w h => List.mem_cons_of_mem _ (List.mem_append_right _ (h))
  have hnl := hn.le
  refine lv_aload_n hx hb dX2_unsureness_0 rfl (lv_at hl 0 rfl) ?_
  refine va_get (D := D) (ci := 2) (v := .ref hs) (C := RX2) (T := TX2) (N := 4) hx hb hts hi2 hown hK hP 0 rfl rfl 1 (by decide) (hts (.fieldLink RX2 15 "PairedChannels$Word" "settings" "[I") (List.mem_of_getElem? (i := 1) (by decide +kernel))) (fun _ h9 => h9) rfl dX2_unsureness_1 ?_
  refine lv_iconst (v := 0) hx hb dX2_unsureness_4 (by decide) ?_
  refine wa_iald hx hb hK hP 1 0 rfl rfl (0) rfl (by omega) (by decide) dX2_unsureness_5 ?_
  refine lv_i2l (v := ((sf 0).toInt64)) hx hb dX2_unsureness_6 rfl ?_
  refine lv_ldc2 hx hb hown (hts (.constantLong RX2 60 (1000)) (List.mem_of_getElem? (i := 2) (by decide +kernel))) dX2_unsureness_7 ?_
  refine lv_lmul hx hb dX2_unsureness_10 ?_
  refine lv_lstore_n (lv' := [(2, .long (((sf 0).toInt64) * 1000)), (0, .ref h0), (1, .int (nI pl))]) hx hb dX2_unsureness_11 rfl hl (by decide) rfl (fun ls hl => ?_)
  refine lv_aload_n hx hb dX2_unsureness_12 rfl (lv_at hl 1 rfl) ?_
  refine va_get (D := D) (ci := 2) (v := .int (nI n)) (C := RX2) (T := TX2) (N := 4) hx hb hts hi2 hown hK hP 0 rfl rfl 2 (by decide) (hts (.fieldLink RX2 18 "PairedChannels$Word" "places" "I") (List.mem_of_getElem? (i := 3) (by decide +kernel))) (fun _ h9 => h9) rfl dX2_unsureness_13 ?_
  refine lv_iconst (v := 2) hx hb dX2_unsureness_16 (by decide) ?_
  refine lv_idiv hx hb dX2_unsureness_17 (by decide) ?_
  refine lv_eqi (nI (n / 2)) (pk_div (a := n) (d := 2) (by omega) (by omega) (by omega)) ?_
  refine lv_istore (lv' := [(4, .int (nI (n / 2))), (2, .long (((sf 0).toInt64) * 1000)), (0, .ref h0), (1, .int (nI pl))]) hx hb dX2_unsureness_18 hl (by decide) rfl (fun ls hl => ?_)
  refine g_loopD (st := []) (N := (lg n)) (fun k H locs ls => ∃ z : Int64, (k ≤ 4 ∧ unsZ pl k z = unsZ pl (lg n) ((sf 0).toInt64 * 1000)) ∧ va_P D vwCl [(h0, .inr (2, [.ref hv, .ref hs, .int (nI n), .int mask])), (hs, .inl (K 0, 4, .inl sf))] H ∧ va_S gNo s.heap H locs ∧ lv_has ls 7 [(4, .int (nI (2 ^ k / 2))), (2, .long z), (0, .ref h0), (1, .int (nI pl))])  ?_ ?_ ?_
  · intro H locs ls hI
    obtain ⟨z, ⟨hk4, hz⟩, hP, hS, hl⟩ := hI
    have hz : z = _ := hz
    refine lv_iload hx hb dX2_unsureness_20 (lv_at hl 0 rfl) ?_
    refine lv_if_le (tgt := 64) hx hb dX2_unsureness_22 (by decide) (fun c0 => ?_) (fun c0 => ?_)
    · skip
      have c0 : 2 ^ 0 / 2 ≤ 0 := (nI_leI (a := 2 ^ 0 / 2) (b := 0) (by omega) (by omega)).mp c0
      refine lv_lload_n hx hb dX2_unsureness_64 rfl (lv_at hl 1 rfl) ?_
      refine lv_l2i (v := (z.toInt32)) hx hb dX2_unsureness_65 rfl ?_
      exact gR_iret (v := (z.toInt32)) hx hb hr hlk (rfl) hS (by rw [hz]; rfl) dX2_unsureness_66
    · skip
      have c0 : ¬ 2 ^ 0 / 2 ≤ 0 := fun h9 => c0 ((nI_leI (a := 2 ^ 0 / 2) (b := 0) (by omega) (by omega)).mpr h9)
      exact absurd c0 (by decide)
  · intro k ih1 H locs ls hI
    obtain ⟨z, ⟨hk4, hz⟩, hP, hS, hl⟩ := hI
    have hpw := pw_le (k := k) (by omega)
    have hph := pw_half k
    refine lv_iload hx hb dX2_unsureness_20 (lv_at hl 0 rfl) ?_
    refine lv_if_le (tgt := 64) hx hb dX2_unsureness_22 (by decide) (fun c0 => ?_) (fun c0 => ?_)
    · skip
      have c0 : 2 ^ (k + 1) / 2 ≤ 0 := (nI_leI (a := 2 ^ (k + 1) / 2) (b := 0) (by omega) (by omega)).mp c0
      omega
    · skip
      have c0 : ¬ 2 ^ (k + 1) / 2 ≤ 0 := fun h9 => c0 ((nI_leI (a := 2 ^ (k + 1) / 2) (b := 0) (by omega) (by omega)).mpr h9)
      refine lv_lload_n hx hb dX2_unsureness_25 rfl (lv_at hl 1 rfl) ?_
      refine lv_lload_n hx hb dX2_unsureness_26 rfl (lv_at hl 1 rfl) ?_
      refine lv_lmul hx hb dX2_unsureness_27 ?_
      refine lv_ldc2 hx hb hown (hts (.constantLong RX2 62 (1000000)) (List.mem_of_getElem? (i := 4) (by decide +kernel))) dX2_unsureness_28 ?_
      refine lv_ldiv hx hb dX2_unsureness_31 (by decide) ?_
      refine lv_lstore (lv' := [(5, .long ((z * z) / 1000000)), (4, .int (nI (2 ^ (k + 1) / 2))), (2, .long z), (0, .ref h0), (1, .int (nI pl))]) hx hb dX2_unsureness_32 hl (by decide) rfl (fun ls hl => ?_)
      refine lv_iload_n hx hb dX2_unsureness_34 rfl (lv_at hl 4 rfl) ?_
      refine lv_iload hx hb dX2_unsureness_35 (lv_at hl 1 rfl) ?_
      refine lv_iand hx hb dX2_unsureness_37 ?_
      refine g_cut (F0 mm 54 ls [.long (if (nI pl &&& nI (2 ^ (k + 1) / 2)) = 0 then ((2 * z) - ((z * z) / 1000000)) else ((z * z) / 1000000))]) (fun hJ => ?_) ?_
      · refine lv_if_ne (tgt := 52) hx hb dX2_unsureness_38 (by decide) (fun c38 => ?_) (fun c38 => ?_)
        · skip
          refine lv_lload hx hb dX2_unsureness_52 (lv_at hl 0 rfl) ?_
          rw [if_neg c38] at hJ
          exact hJ
        · skip
          refine lv_ldc2 hx hb hown (hts (.constantLong RX2 64 (2)) (List.mem_of_getElem? (i := 5) (by decide +kernel))) dX2_unsureness_41 ?_
          refine lv_lload_n hx hb dX2_unsureness_44 rfl (lv_at hl 2 rfl) ?_
          refine lv_lmul hx hb dX2_unsureness_45 ?_
          refine lv_lload hx hb dX2_unsureness_46 (lv_at hl 0 rfl) ?_
          refine lv_lsub hx hb dX2_unsureness_48 ?_
          refine lv_goto (tgt := 54) hx hb dX2_unsureness_49 (by decide) ?_
          rw [if_pos c38] at hJ
          exact hJ
      · skip
        refine lv_lstore_n (lv' := [(2, .long (if (nI pl &&& nI (2 ^ (k + 1) / 2)) = 0 then ((2 * z) - ((z * z) / 1000000)) else ((z * z) / 1000000))), (5, .long ((z * z) / 1000000)), (4, .int (nI (2 ^ (k + 1) / 2))), (0, .ref h0), (1, .int (nI pl))]) hx hb dX2_unsureness_54 rfl hl (by decide) rfl (fun ls hl => ?_)
        refine lv_iload hx hb dX2_unsureness_55 (lv_at hl 2 rfl) ?_
        refine lv_iconst (v := 2) hx hb dX2_unsureness_57 (by decide) ?_
        refine lv_idiv hx hb dX2_unsureness_58 (by decide) ?_
        refine lv_eqi (nI ((2 ^ (k + 1) / 2) / 2)) (pk_div (a := 2 ^ (k + 1) / 2) (d := 2) (by omega) (by omega) (by omega)) ?_
        refine lv_istore (lv' := [(4, .int (nI ((2 ^ (k + 1) / 2) / 2))), (2, .long (if (nI pl &&& nI (2 ^ (k + 1) / 2)) = 0 then ((2 * z) - ((z * z) / 1000000)) else ((z * z) / 1000000))), (5, .long ((z * z) / 1000000)), (0, .ref h0), (1, .int (nI pl))]) hx hb dX2_unsureness_59 hl (by decide) rfl (fun ls hl => ?_)
        refine lv_goto (tgt := 20) hx hb dX2_unsureness_61 (by decide) ?_
        have e9 : (nI ((2 ^ (k + 1) / 2) / 2)) = (nI (2 ^ k / 2)) := by rw [hph]
        rw [e9] at hl
        exact ih1 H locs ls ⟨(if (nI pl &&& nI (2 ^ (k + 1) / 2)) = 0 then ((2 * z) - ((z * z) / 1000000)) else ((z * z) / 1000000)), (⟨by omega, by rw [← hz]; show _ = unsZ pl k (ustep z (pl / 2 ^ k % 2)); unfold ustep; first | rw [if_pos cz] | rw [if_neg cz]⟩), hP, hS, lv_sub hl [0, 1, 3, 4] rfl⟩
  · exact ⟨_, (⟨lg_le hn.n1, rfl⟩), hP, hS, lv_sub hl [0, 1, 2, 3] rfl⟩

set_option maxHeartbeats 4000000 in
set_option maxRecDepth 100000 in
theorem c_X2_sureRank (l : Launch) (D : va_G) (K : Nat → ClassId) (h0 : Nat) (hv : Nat) (hs : Nat) (n : Nat) (mask : Int32) (sf : Nat → Int32) (pl : Nat) (hn : okN n) (hp : pl < n) : MRi l yX2_sureRank wsX2_sureRank ({ frames := 1, cells := 0, slots := 0, locals := 26 } : Room) D (gTy K) [.ref h0, .int (nI pl)] [(h0, .inr (2, [.ref hv, .ref hs, .int (nI n), .int mask])), (hs, .inl (K 0, 4, .inl sf))] (fun r => r = nI (rnk (uns sf n) pl n)) := by
  refine g_ofR (cc := cX2_sureRank) (maxL := 6) (ret := (some .int)) (own := RX2) (by decide) rfl rfl (Nat.le_of_ble_eq_true rfl) ?_
  intro pp ee s mm below meth cc hfx hK hP hE hS ls hl
  obtain ⟨hx, hb, hr, hml, hown, hts, hlk⟩ := hfx
  have hl : lv_has ls 6 [(4, .int 0), (3, .int 0), (2, .int (uns sf n pl)), (0, .ref h0), (1, .int (nI pl))] := hl
  have hi2 : ∀ w ∈ u_ws RX2 TX2 4, w ∈ wsX2_sureRank := fun w h => List.mem_cons_of_mem _ (List.mem_append_right _ (h))
  have hnl := hn.le
  refine lv_aload_n hx hb dX2_sureRank_0 rfl (lv_at hl 0 rfl) ?_
  refine lv_iload_n hx hb dX2_sureRank_1 rfl (lv_at hl 1 rfl) ?_
  refine gR_i (va_runV (As := [.int (nI pl)]) (rest := []) ⟨hx, hb, hml, hown, hts⟩ (c_X2_unsureness l D K h0 hv hs n mask sf pl (by first | assumption | omega) (by first | assumption | omega)) (cwV 1 hts gX2_sureRank_X2_unsureness rfl rfl rfl (by decide +kernel) ⟨Nat.le_of_ble_eq_true rfl, Nat.le_of_ble_eq_true rfl⟩) (gR_preV hE hS hK hP [0, 1] rfl 0 rfl rfl rfl) rfl rfl hl.1 rfl (lv_room (Nat.le_of_ble_eq_true rfl)) dX2_sureRank_2 ⟨Nat.le_of_ble_eq_true rfl, Nat.le_of_ble_eq_true rfl⟩) hS hP (fun rv2 H locs h1 hP hS => ?_)
  have h1 : rv2 = uns sf n pl := h1
  subst h1
  refine lv_istore_n (lv' := [(2, .int (uns sf n pl)), (0, .ref h0), (1, .int (nI pl))]) hx hb dX2_sureRank_5 rfl hl (by decide) rfl (fun ls hl => ?_)
  refine lv_iconst (v := 0) hx hb dX2_sureRank_6 (by decide) ?_
  refine lv_istore_n (lv' := [(3, .int 0), (2, .int (uns sf n pl)), (0, .ref h0), (1, .int (nI pl))]) hx hb dX2_sureRank_7 rfl hl (by decide) rfl (fun ls hl => ?_)
  refine lv_iconst (v := 0) hx hb dX2_sureRank_8 (by decide) ?_
  refine lv_istore (lv' := [(4, .int 0), (3, .int 0), (2, .int (uns sf n pl)), (0, .ref h0), (1, .int (nI pl))]) hx hb dX2_sureRank_9 hl (by decide) rfl (fun ls hl => ?_)
  refine g_loopW (st := []) (N := n) (fun i H locs ls => va_P D vwCl [(h0, .inr (2, [.ref hv, .ref hs, .int (nI n), .int mask])), (hs, .inl (K 0, 4, .inl sf))] H ∧ va_S gNo s.heap H locs ∧ lv_has ls 6 [(4, .int (nI i)), (3, .int (nI (rnk (uns sf n) pl i))), (2, .int (uns sf n pl)), (0, .ref h0), (1, .int (nI pl))]) 0 (Nat.zero_le _) ?_ ?_ ?_
  · intro H locs ls hI
    obtain ⟨hP, hS, hl⟩ := hI
    refine lv_iload hx hb dX2_sureRank_11 (lv_at hl 0 rfl) ?_
    refine lv_aload_n hx hb dX2_sureRank_13 rfl (lv_at hl 3 rfl) ?_
    refine va_get (D := D) (ci := 2) (v := .int (nI n)) (C := RX2) (T := TX2) (N := 4) hx hb hts hi2 hown hK hP 0 rfl rfl 2 (by decide) (hts (.fieldLink RX2 18 "PairedChannels$Word" "places" "I") (List.mem_of_getElem? (i := 1) (by decide +kernel))) (fun _ h9 => h9) rfl dX2_sureRank_14 ?_
    refine lv_icmp_ge (tgt := 55) hx hb dX2_sureRank_17 (by decide) (fun c4 => ?_) (fun c4 => ?_)
    · skip
      have c4 : n ≤ n := (nI_leI (a := n) (b := n) (by omega) (by omega)).mp c4
      refine lv_iload_n hx hb dX2_sureRank_55 rfl (lv_at hl 1 rfl) ?_
      exact gR_iret (v := nI (rnk (uns sf n) pl n)) hx hb hr hlk (rfl) hS (rfl) dX2_sureRank_56
    · skip
      have c4 : ¬ n ≤ n := fun h9 => c4 ((nI_leI (a := n) (b := n) (by omega) (by omega)).mpr h9)
      omega
  · intro i hi ih3 H locs ls hI
    obtain ⟨hP, hS, hl⟩ := hI
    have hrk := rnk_le (uns sf n) pl i
    refine lv_iload hx hb dX2_sureRank_11 (lv_at hl 0 rfl) ?_
    refine lv_aload_n hx hb dX2_sureRank_13 rfl (lv_at hl 3 rfl) ?_
    refine va_get (D := D) (ci := 2) (v := .int (nI n)) (C := RX2) (T := TX2) (N := 4) hx hb hts hi2 hown hK hP 0 rfl rfl 2 (by decide) (hts (.fieldLink RX2 18 "PairedChannels$Word" "places" "I") (List.mem_of_getElem? (i := 1) (by decide +kernel))) (fun _ h9 => h9) rfl dX2_sureRank_14 ?_
    refine lv_icmp_ge (tgt := 55) hx hb dX2_sureRank_17 (by decide) (fun c5 => ?_) (fun c5 => ?_)
    · skip
      have c5 : n ≤ i := (nI_leI (a := n) (b := i) (by omega) (by omega)).mp c5
      omega
    · skip
      have c5 : ¬ n ≤ i := fun h9 => c5 ((nI_leI (a := n) (b := i) (by omega) (by omega)).mpr h9)
      refine lv_aload_n hx hb dX2_sureRank_20 rfl (lv_at hl 3 rfl) ?_
      refine lv_iload hx hb dX2_sureRank_21 (lv_at hl 0 rfl) ?_
      refine gR_i (va_runV (As := [.int (nI i)]) (rest := []) ⟨hx, hb, hml, hown, hts⟩ (c_X2_unsureness l D K h0 hv hs n mask sf i (by first | assumption | omega) (by first | assumption | omega)) (cwV 1 hts gX2_sureRank_X2_unsureness rfl rfl rfl (by decide +kernel) ⟨Nat.le_of_ble_eq_true rfl, Nat.le_of_ble_eq_true rfl⟩) (gR_preV hE hS hK hP [0, 1] rfl 0 rfl rfl rfl) rfl rfl hl.1 rfl (lv_room (Nat.le_of_ble_eq_true rfl)) dX2_sureRank_23 ⟨Nat.le_of_ble_eq_true rfl, Nat.le_of_ble_eq_true rfl⟩) hS hP (fun rv7 H locs h6 hP hS => ?_)
      have h6 : rv7 = uns sf n i := h6
      subst h6
      refine lv_istore (lv' := [(5, .int (uns sf n i)), (4, .int (nI i)), (3, .int (nI (rnk (uns sf n) pl i))), (2, .int (uns sf n pl)), (0, .ref h0), (1, .int (nI pl))]) hx hb dX2_sureRank_26 hl (by decide) rfl (fun ls hl => ?_)
      refine lv_iload hx hb dX2_sureRank_28 (lv_at hl 0 rfl) ?_
      refine lv_iload_n hx hb dX2_sureRank_30 rfl (lv_at hl 3 rfl) ?_
      refine lv_icmp_lt (tgt := 46) hx hb dX2_sureRank_31 (by decide) (fun c31 => ?_) (fun c31 => ?_)
      · skip
        refine lv_iinc (v := nI (rnk (uns sf n) pl i + 1)) (lv' := [(3, .int (nI (rnk (uns sf n) pl i + 1))), (5, .int (uns sf n i)), (4, .int (nI i)), (2, .int (uns sf n pl)), (0, .ref h0), (1, .int (nI pl))]) hx hb dX2_sureRank_46 hl (k := 2) rfl (nI_add (rnk (uns sf n) pl i) 1) (by decide) rfl (fun ls hl => ?_)
        refine lv_iinc (v := nI (i + 1)) (lv' := [(4, .int (nI (i + 1))), (3, .int (nI (rnk (uns sf n) pl i + 1))), (5, .int (uns sf n i)), (2, .int (uns sf n pl)), (0, .ref h0), (1, .int (nI pl))]) hx hb dX2_sureRank_49 hl (k := 2) rfl (nI_add i 1) (by decide) rfl (fun ls hl => ?_)
        refine lv_goto (tgt := 11) hx hb dX2_sureRank_52 (by decide) ?_
        exact ih3 H locs ls ⟨hP, hS, lv_sub hl [0, 1, 3, 4, 5] rfl⟩
      · skip
        refine lv_iload hx hb dX2_sureRank_34 (lv_at hl 0 rfl) ?_
        refine lv_iload_n hx hb dX2_sureRank_36 rfl (lv_at hl 3 rfl) ?_
        refine lv_icmp_ne (tgt := 49) hx hb dX2_sureRank_37 (by decide) (fun c37 => ?_) (fun c37 => ?_)
        · skip
          refine lv_iinc (v := nI (i + 1)) (lv' := [(4, .int (nI (i + 1))), (5, .int (uns sf n i)), (3, .int (nI (rnk (uns sf n) pl i))), (2, .int (uns sf n pl)), (0, .ref h0), (1, .int (nI pl))]) hx hb dX2_sureRank_49 hl (k := 1) rfl (nI_add i 1) (by decide) rfl (fun ls hl => ?_)
          refine lv_goto (tgt := 11) hx hb dX2_sureRank_52 (by decide) ?_
          have e9 : (nI (rnk (uns sf n) pl i)) = (nI (rnk (uns sf n) pl i + 1)) := congrArg nI (by show _ = rnk (uns sf n) pl i + (if uns sf n i < uns sf n pl ∨ (uns sf n i = uns sf n pl ∧ pl < i) then 1 else 0); first | rw [if_pos (Or.inl c31)] | rw [if_pos (Or.inr ⟨c37, by omega⟩)] | rw [if_neg (fun h => h.elim c31 (fun h => c37 h.1))]; rfl | rw [if_neg (fun h => h.elim c31 (fun h => absurd h.2 (by omega)))]; rfl)
          rw [e9] at hl
          exact ih3 H locs ls ⟨hP, hS, lv_sub hl [0, 2, 3, 4, 5] rfl⟩
        · skip
          refine lv_iload hx hb dX2_sureRank_40 (lv_at hl 1 rfl) ?_
          refine lv_iload_n hx hb dX2_sureRank_42 rfl (lv_at hl 5 rfl) ?_
          refine lv_icmp_le (tgt := 49) hx hb dX2_sureRank_43 (by decide) (fun c43 => ?_) (fun c43 => ?_)
          · skip
            have c43 : i ≤ pl := (nI_leI (a := i) (b := pl) (by omega) (by omega)).mp c43
            refine lv_iinc (v := nI (i + 1)) (lv' := [(4, .int (nI (i + 1))), (5, .int (uns sf n i)), (3, .int (nI (rnk (uns sf n) pl i))), (2, .int (uns sf n pl)), (0, .ref h0), (1, .int (nI pl))]) hx hb dX2_sureRank_49 hl (k := 1) rfl (nI_add i 1) (by decide) rfl (fun ls hl => ?_)
            refine lv_goto (tgt := 11) hx hb dX2_sureRank_52 (by decide) ?_
            have e9 : (nI (rnk (uns sf n) pl i)) = (nI (rnk (uns sf n) pl i + 1)) := congrArg nI (by show _ = rnk (uns sf n) pl i + (if uns sf n i < uns sf n pl ∨ (uns sf n i = uns sf n pl ∧ pl < i) then 1 else 0); first | rw [if_pos (Or.inl c31)] | rw [if_pos (Or.inr ⟨c37, by omega⟩)] | rw [if_neg (fun h => h.elim c31 (fun h => c37 h.1))]; rfl | rw [if_neg (fun h => h.elim c31 (fun h => absurd h.2 (by omega)))]; rfl)
            rw [e9] at hl
            exact ih3 H locs ls ⟨hP, hS, lv_sub hl [0, 2, 3, 4, 5] rfl⟩
          · skip
            have c43 : ¬ i ≤ pl := fun h9 => c43 ((nI_leI (a := i) (b := pl) (by omega) (by omega)).mpr h9)
            refine lv_iinc (v := nI (rnk (uns sf n) pl i + 1)) (lv' := [(3, .int (nI (rnk (uns sf n) pl i + 1))), (5, .int (uns sf n i)), (4, .int (nI i)), (2, .int (uns sf n pl)), (0, .ref h0), (1, .int (nI pl))]) hx hb dX2_sureRank_46 hl (k := 2) rfl (nI_add (rnk (uns sf n) pl i) 1) (by decide) rfl (fun ls hl => ?_)
            refine lv_iinc (v := nI (i + 1)) (lv' := [(4, .int (nI (i + 1))), (3, .int (nI (rnk (uns sf n) pl i + 1))), (5, .int (uns sf n i)), (2, .int (uns sf n pl)), (0, .ref h0), (1, .int (nI pl))]) hx hb dX2_sureRank_49 hl (k := 2) rfl (nI_add i 1) (by decide) rfl (fun ls hl => ?_)
            refine lv_goto (tgt := 11) hx hb dX2_sureRank_52 (by decide) ?_
            exact ih3 H locs ls ⟨hP, hS, lv_sub hl [0, 1, 3, 4, 5] rfl⟩
  · exact ⟨hP, hS, lv_sub hl [0, 1, 2, 3, 4] rfl⟩

set_option maxHeartbeats 4000000 in
set_option maxRecDepth 100000 in
theorem c_X2_hasRoomFor (l : Launch) (D : va_G) (K : Nat → ClassId) (h0 : Nat) (hv : Nat) (hs : Nat) (n : Nat) (mask : Int32) (sf : Nat → Int32) (q : Int32) (hn : okN n) (hm : okM mask n) (hsf : okS sf) : MRi l yX2_hasRoomFor wsX2_hasRoomFor ({ frames := 4, cells := 0, slots := 0, locals := 80 } : Room) D (gTy K) [.ref h0, .int q] [(h0, .inr (2, [.ref hv, .ref hs, .int (nI n), .int mask])), (hs, .inl (K 0, 4, .inl sf))] (fun r => r = (if 0 ≤ q ∧ q >>> (nI (bdB mask n sf) &&& 31) = 0 then 1 else 0)) := by
  refine g_ofR (cc := cX2_hasRoomFor) (maxL := 2) (ret := (some .boolean)) (own := RX2) (by decide) rfl rfl (Nat.le_of_ble_eq_true rfl) ?_
  intro pp ee s mm below meth cc hfx hK hP hE hS ls hl
  obtain ⟨hx, hb, hr, hml, hown, hts, hlk⟩ := hfx
  have hl : lv_has ls 2 [(0, .ref h0), (1, .int q)] := hl
  refine lv_iload_n hx hb dX2_hasRoomFor_0 rfl (lv_at hl 1 rfl) ?_
  refine lv_if_lt (tgt := 17) hx hb dX2_hasRoomFor_1 (by decide) (fun c1 => ?_) (fun c1 => ?_)
  · skip
    refine lv_iconst (v := 0) hx hb dX2_hasRoomFor_17 (by decide) ?_
    exact gR_iret (v := 0) hx hb hr hlk (rfl) hS (by first | rw [if_pos ⟨Int32.not_lt.mp c1, c2⟩] | rw [if_neg (fun h => absurd c1 (Int32.not_lt.mpr h.1))] | rw [if_neg (fun h => c2 h.2)]) dX2_hasRoomFor_18
  · skip
    refine lv_iload_n hx hb dX2_hasRoomFor_4 rfl (lv_at hl 1 rfl) ?_
    refine lv_aload_n hx hb dX2_hasRoomFor_5 rfl (lv_at hl 0 rfl) ?_
    refine gR_i (va_runV (As := []) (rest := [.int q]) ⟨hx, hb, hml, hown, hts⟩ (c_X2_bodyBits l D K h0 hv hs n mask sf (by first | assumption | omega) (by first | assumption | omega) (by first | assumption | omega)) (cwV 0 hts gX2_hasRoomFor_X2_bodyBits rfl rfl rfl (by decide +kernel) ⟨Nat.le_of_ble_eq_true rfl, Nat.le_of_ble_eq_true rfl⟩) (gR_preV hE hS hK hP [0, 1] rfl 0 rfl rfl rfl) rfl rfl hl.1 rfl (lv_room (Nat.le_of_ble_eq_true rfl)) dX2_hasRoomFor_6 ⟨Nat.le_of_ble_eq_true rfl, Nat.le_of_ble_eq_true rfl⟩) hS hP (fun rv3 H locs h2 hP hS => ?_)
    have h2 : rv3 = nI (bdB mask n sf) := h2
    subst h2
    refine lv_ishr hx hb dX2_hasRoomFor_9 ?_
    refine lv_if_ne (tgt := 17) hx hb dX2_hasRoomFor_10 (by decide) (fun c2 => ?_) (fun c2 => ?_)
    · skip
      refine lv_iconst (v := 0) hx hb dX2_hasRoomFor_17 (by decide) ?_
      exact gR_iret (v := 0) hx hb hr hlk (rfl) hS (by first | rw [if_pos ⟨Int32.not_lt.mp c1, c2⟩] | rw [if_neg (fun h => absurd c1 (Int32.not_lt.mpr h.1))] | rw [if_neg (fun h => c2 h.2)]) dX2_hasRoomFor_18
    · skip
      refine lv_iconst (v := 1) hx hb dX2_hasRoomFor_13 (by decide) ?_
      refine lv_goto (tgt := 18) hx hb dX2_hasRoomFor_14 (by decide) ?_
      exact gR_iret (v := 1) hx hb hr hlk (rfl) hS (by first | rw [if_pos ⟨Int32.not_lt.mp c1, c2⟩] | rw [if_neg (fun h => absurd c1 (Int32.not_lt.mpr h.1))] | rw [if_neg (fun h => c2 h.2)]) dX2_hasRoomFor_18

set_option maxHeartbeats 4000000 in
set_option maxRecDepth 100000 in
theorem c_X2_bodyOf (l : Launch) (D : va_G) (K : Nat → ClassId) (h0 : Nat) (hv : Nat) (hs : Nat) (n : Nat) (mask : Int32) (sf : Nat → Int32) (x : Int32) (hn : okN n) (hm : okM mask n) (hsf : okS sf) : MRi l yX2_bodyOf wsX2_bodyOf ({ frames := 4, cells := 0, slots := 0, locals := 80 } : Room) D (gTy K) [.ref h0, .int x] [(h0, .inr (2, [.ref hv, .ref hs, .int (nI n), .int mask])), (hs, .inl (K 0, 4, .inl sf))] (fun r => r = x &&& ((1 <<< (nI (bdB mask n sf) &&& 31)) - 1)) := by
  refine g_ofR (cc := cX2_bodyOf) (maxL := 2) (ret := (some .int)) (own := RX2) (by decide) rfl rfl (Nat.le_of_ble_eq_true rfl) ?_
  intro pp ee s mm below meth cc hfx hK hP hE hS ls hl
  obtain ⟨hx, hb, hr, hml, hown, hts, hlk⟩ := hfx
  have hl : lv_has ls 2 [(0, .ref h0), (1, .int x)] := hl
  refine lv_iload_n hx hb dX2_bodyOf_0 rfl (lv_at hl 1 rfl) ?_
  refine lv_iconst (v := 1) hx hb dX2_bodyOf_1 (by decide) ?_
  refine lv_aload_n hx hb dX2_bodyOf_2 rfl (lv_at hl 0 rfl) ?_
  refine gR_i (va_runV (As := []) (rest := [.int 1, .int x]) ⟨hx, hb, hml, hown, hts⟩ (c_X2_bodyBits l D K h0 hv hs n mask sf (by first | assumption | omega) (by first | assumption | omega) (by first | assumption | omega)) (cwV 0 hts gX2_bodyOf_X2_bodyBits rfl rfl rfl (by decide +kernel) ⟨Nat.le_of_ble_eq_true rfl, Nat.le_of_ble_eq_true rfl⟩) (gR_preV hE hS hK hP [0, 1] rfl 0 rfl rfl rfl) rfl rfl hl.1 rfl (lv_room (Nat.le_of_ble_eq_true rfl)) dX2_bodyOf_3 ⟨Nat.le_of_ble_eq_true rfl, Nat.le_of_ble_eq_true rfl⟩) hS hP (fun rv2 H locs h1 hP hS => ?_)
  have h1 : rv2 = nI (bdB mask n sf) := h1
  subst h1
  refine lv_ishl hx hb dX2_bodyOf_6 ?_
  refine lv_iconst (v := 1) hx hb dX2_bodyOf_7 (by decide) ?_
  refine lv_isub hx hb dX2_bodyOf_8 ?_
  refine lv_iand hx hb dX2_bodyOf_9 ?_
  exact gR_iret (v := (x &&& ((1 <<< ((nI (bdB mask n sf)) &&& 31)) - 1))) hx hb hr hlk (rfl) hS (rfl) dX2_bodyOf_10

set_option maxHeartbeats 4000000 in
set_option maxRecDepth 100000 in
theorem c_X2_withChecks (l : Launch) (D : va_G) (K : Nat → ClassId) (h0 : Nat) (hv : Nat) (hs : Nat) (n : Nat) (mask : Int32) (sf : Nat → Int32) (x : Int32) (hn : okN n) (hm : okM mask n) (hsf : okS sf) : MRi l yX2_withChecks wsX2_withChecks ({ frames := 4, cells := 0, slots := 0, locals := 80 } : Room) D (gTy K) [.ref h0, .int x] [(h0, .inr (2, [.ref hv, .ref hs, .int (nI n), .int mask])), (hs, .inl (K 0, 4, .inl sf))] (fun r => r = wck n mask sf x) := by
  refine g_ofR (cc := cX2_withChecks) (maxL := 3) (ret := (some .int)) (own := RX2) (by decide) rfl rfl (Nat.le_of_ble_eq_true rfl) ?_
  intro pp ee s mm below meth cc hfx hK hP hE hS ls hl
  obtain ⟨hx, hb, hr, hml, hown, hts, hlk⟩ := hfx
  have hl : lv_has ls 3 [(2, .int (nI (bdB mask n sf))), (0, .ref h0), (1, .int x)] := hl
  have hb16 := Nat.le_trans (bdB_le mask n sf) hn.le.2
  refine lv_aload_n hx hb dX2_withChecks_0 rfl (lv_at hl 0 rfl) ?_
  refine gR_i (va_runV (As := []) (rest := []) ⟨hx, hb, hml, hown, hts⟩ (c_X2_bodyBits l D K h0 hv hs n mask sf (by first | assumption | omega) (by first | assumption | omega) (by first | assumption | omega)) (cwV 0 hts gX2_withChecks_X2_bodyBits rfl rfl rfl (by decide +kernel) ⟨Nat.le_of_ble_eq_true rfl, Nat.le_of_ble_eq_true rfl⟩) (gR_preV hE hS hK hP [0, 1] rfl 0 rfl rfl rfl) rfl rfl hl.1 rfl (lv_room (Nat.le_of_ble_eq_true rfl)) dX2_withChecks_1 ⟨Nat.le_of_ble_eq_true rfl, Nat.le_of_ble_eq_true rfl⟩) hS hP (fun rv2 H locs h1 hP hS => ?_)
  have h1 : rv2 = nI (bdB mask n sf) := h1
  subst h1
  refine lv_istore_n (lv' := [(2, .int (nI (bdB mask n sf))), (0, .ref h0), (1, .int x)]) hx hb dX2_withChecks_4 rfl hl (by decide) rfl (fun ls hl => ?_)
  refine lv_iload_n hx hb dX2_withChecks_5 rfl (lv_at hl 2 rfl) ?_
  refine lv_iload_n hx hb dX2_withChecks_6 rfl (lv_at hl 2 rfl) ?_
  refine lv_iload_n hx hb dX2_withChecks_7 rfl (lv_at hl 0 rfl) ?_
  refine lv_aload_n hx hb dX2_withChecks_8 rfl (lv_at hl 1 rfl) ?_
  refine gR_i (va_runV (As := []) (rest := [.int (nI (bdB mask n sf)), .int x, .int x]) ⟨hx, hb, hml, hown, hts⟩ (c_X2_checkBits l D K h0 hv hs n mask sf (by first | assumption | omega) (by first | assumption | omega) (by first | assumption | omega)) (cwV 0 hts gX2_withChecks_X2_checkBits rfl rfl rfl (by decide +kernel) ⟨Nat.le_of_ble_eq_true rfl, Nat.le_of_ble_eq_true rfl⟩) (gR_preV hE hS hK hP [0, 1] rfl 0 rfl rfl rfl) rfl rfl hl.1 rfl (lv_room (Nat.le_of_ble_eq_true rfl)) dX2_withChecks_9 ⟨Nat.le_of_ble_eq_true rfl, Nat.le_of_ble_eq_true rfl⟩) hS hP (fun rv4 H locs h3 hP hS => ?_)
  have h3 : rv4 = nI (ckB mask n sf) := h3
  subst h3
  refine gR_i (va_runSN (host := RX3) (As := [.int x, .int (nI (bdB mask n sf)), .int (nI (ckB mask n sf))]) (rest := [.int x]) ⟨hx, hb, hml, hown, hts⟩ (c_X3_checkNumber l D K x (bdB mask n sf) (ckB mask n sf) (by first | assumption | omega)) ⟨va_cnB 3 hts gX2_withChecks_X3_checkNumber_n69 rfl rfl rfl (hE.1 _ (by decide +kernel)) (hts (.initialized RX3) (List.mem_of_getElem? (i := 28) (by decide +kernel))) (by decide +kernel) ⟨Nat.le_of_ble_eq_true rfl, Nat.le_of_ble_eq_true rfl⟩, (hts (.static yX3_checkNumber) (List.mem_of_getElem? (i := 27) (by decide +kernel))), trivial⟩ (gR_pre hE hS hK hP [] rfl) rfl rfl hl.1 rfl (lv_room (Nat.le_of_ble_eq_true rfl)) dX2_withChecks_12 ⟨Nat.le_of_ble_eq_true rfl, Nat.le_of_ble_eq_true rfl⟩) hS hP (fun rv6 H locs h5 hP hS => ?_)
  have h5 : rv6 = chk x (bdB mask n sf) (ckB mask n sf) := h5
  subst h5
  refine lv_iload_n hx hb dX2_withChecks_15 rfl (lv_at hl 0 rfl) ?_
  refine lv_ishl hx hb dX2_withChecks_16 ?_
  refine lv_ior hx hb dX2_withChecks_17 ?_
  exact gR_iret (v := (x ||| ((chk x (bdB mask n sf) (ckB mask n sf)) <<< ((nI (bdB mask n sf)) &&& 31)))) hx hb hr hlk (rfl) hS (rfl) dX2_withChecks_18

set_option maxHeartbeats 4000000 in
set_option maxRecDepth 100000 in
theorem c_X2_wordOf (l : Launch) (D : va_G) (K : Nat → ClassId) (h0 : Nat) (hv : Nat) (hs : Nat) (n : Nat) (mask : Int32) (x : Int32) (hn : okN n) : MRi l yX2_wordOf wsX2_wordOf ({ frames := 1, cells := 0, slots := 0, locals := 23 } : Room) D (gTy K) [.ref h0, .int x] [(h0, .inr (2, [.ref hv, .ref hs, .int (nI n), .int mask]))] (fun r => r = wof n mask x) := by
  refine g_ofR (cc := cX2_wordOf) (maxL := 5) (ret := (some .int)) (own := RX2) (by decide) rfl rfl (Nat.le_of_ble_eq_true rfl) ?_
  intro pp ee s mm below meth cc hfx hK hP hE hS ls hl
  obtain ⟨hx, hb, hr, hml, hown, hts, hlk⟩ := hfx
  have hl : lv_has ls 5 [(4, .int 0), (3, .int (x >>> (nI (cntO mask 0) &&& 31))), (2, .int 0), (0, .ref h0), (1, .int x)] := hl
  have hi2 : ∀ w ∈ u_ws RX2 TX2 4, w ∈ wsX2_wordOf := fun w h => List.mem_cons_of_mem _ (List.mem_append_right _ (h))
  have hnl := hn.le
  refine lv_iconst (v := 0) hx hb dX2_wordOf_0 (by decide) ?_
  refine lv_istore_n (lv' := [(2, .int 0), (0, .ref h0), (1, .int x)]) hx hb dX2_wordOf_1 rfl hl (by decide) rfl (fun ls hl => ?_)
  refine lv_iload_n hx hb dX2_wordOf_2 rfl (lv_at hl 2 rfl) ?_
  refine lv_eqi (x >>> (nI (cntO mask 0) &&& 31)) ((sb_shr0 x).symm) ?_
  refine lv_istore_n (lv' := [(3, .int (x >>> (nI (cntO mask 0) &&& 31))), (2, .int 0), (0, .ref h0), (1, .int x)]) hx hb dX2_wordOf_3 rfl hl (by decide) rfl (fun ls hl => ?_)
  refine lv_iconst (v := 0) hx hb dX2_wordOf_4 (by decide) ?_
  refine lv_istore (lv' := [(4, .int 0), (3, .int (x >>> (nI (cntO mask 0) &&& 31))), (2, .int 0), (0, .ref h0), (1, .int x)]) hx hb dX2_wordOf_5 hl (by decide) rfl (fun ls hl => ?_)
  refine g_loopW (st := []) (N := n) (fun i H locs ls => va_P D vwCl [(h0, .inr (2, [.ref hv, .ref hs, .int (nI n), .int mask]))] H ∧ va_S gNo s.heap H locs ∧ lv_has ls 5 [(4, .int (nI i)), (3, .int (x >>> (nI (cntO mask i) &&& 31))), (2, .int (wrd mask x i)), (0, .ref h0), (1, .int x)]) 0 (Nat.zero_le _) ?_ ?_ ?_
  · intro H locs ls hI
    obtain ⟨hP, hS, hl⟩ := hI
    refine lv_iload hx hb dX2_wordOf_7 (lv_at hl 0 rfl) ?_
    refine lv_aload_n hx hb dX2_wordOf_9 rfl (lv_at hl 3 rfl) ?_
    refine va_get (D := D) (ci := 2) (v := .int (nI n)) (C := RX2) (T := TX2) (N := 4) hx hb hts hi2 hown hK hP 0 rfl rfl 2 (by decide) (hts (.fieldLink RX2 18 "PairedChannels$Word" "places" "I") (List.mem_of_getElem? (i := 1) (by decide +kernel))) (fun _ h9 => h9) rfl dX2_wordOf_10 ?_
    refine lv_icmp_ge (tgt := 44) hx hb dX2_wordOf_13 (by decide) (fun c2 => ?_) (fun c2 => ?_)
    · skip
      have c2 : n ≤ n := (nI_leI (a := n) (b := n) (by omega) (by omega)).mp c2
      refine lv_iload_n hx hb dX2_wordOf_44 rfl (lv_at hl 2 rfl) ?_
      refine lv_aload_n hx hb dX2_wordOf_45 rfl (lv_at hl 3 rfl) ?_
      refine va_get (D := D) (ci := 2) (v := .int (nI n)) (C := RX2) (T := TX2) (N := 4) hx hb hts hi2 hown hK hP 0 rfl rfl 2 (by decide) (hts (.fieldLink RX2 18 "PairedChannels$Word" "places" "I") (List.mem_of_getElem? (i := 1) (by decide +kernel))) (fun _ h9 => h9) rfl dX2_wordOf_46 ?_
      refine gR_i (va_runSN (host := RX3) (As := [.int (wrd mask x n), .int (nI n)]) (rest := []) ⟨hx, hb, hml, hown, hts⟩ (c_X3_coded l D K (wrd mask x n) n (hn.n1)) ⟨va_cnB 2 hts gX2_wordOf_X3_coded_n73 rfl rfl rfl (hE.1 _ (by decide +kernel)) (hts (.initialized RX3) (List.mem_of_getElem? (i := 9) (by decide +kernel))) (by decide +kernel) ⟨Nat.le_of_ble_eq_true rfl, Nat.le_of_ble_eq_true rfl⟩, (hts (.static yX3_coded) (List.mem_of_getElem? (i := 8) (by decide +kernel))), trivial⟩ (gR_pre hE hS hK hP [] rfl) rfl rfl hl.1 rfl (lv_room (Nat.le_of_ble_eq_true rfl)) dX2_wordOf_49 ⟨Nat.le_of_ble_eq_true rfl, Nat.le_of_ble_eq_true rfl⟩) hS hP (fun rv4 H locs h3 hP hS => ?_)
      have h3 : rv4 = cod (wrd mask x n) n := h3
      subst h3
      exact gR_iret (v := cod (wrd mask x n) n) hx hb hr hlk (rfl) hS (rfl) dX2_wordOf_52
    · skip
      have c2 : ¬ n ≤ n := fun h9 => c2 ((nI_leI (a := n) (b := n) (by omega) (by omega)).mpr h9)
      omega
  · intro i hi ih1 H locs ls hI
    obtain ⟨hP, hS, hl⟩ := hI
    have hci := cntO_le mask i
    refine lv_iload hx hb dX2_wordOf_7 (lv_at hl 0 rfl) ?_
    refine lv_aload_n hx hb dX2_wordOf_9 rfl (lv_at hl 3 rfl) ?_
    refine va_get (D := D) (ci := 2) (v := .int (nI n)) (C := RX2) (T := TX2) (N := 4) hx hb hts hi2 hown hK hP 0 rfl rfl 2 (by decide) (hts (.fieldLink RX2 18 "PairedChannels$Word" "places" "I") (List.mem_of_getElem? (i := 1) (by decide +kernel))) (fun _ h9 => h9) rfl dX2_wordOf_10 ?_
    refine lv_icmp_ge (tgt := 44) hx hb dX2_wordOf_13 (by decide) (fun c5 => ?_) (fun c5 => ?_)
    · skip
      have c5 : n ≤ i := (nI_leI (a := n) (b := i) (by omega) (by omega)).mp c5
      omega
    · skip
      have c5 : ¬ n ≤ i := fun h9 => c5 ((nI_leI (a := n) (b := i) (by omega) (by omega)).mpr h9)
      refine lv_aload_n hx hb dX2_wordOf_16 rfl (lv_at hl 3 rfl) ?_
      refine lv_iload hx hb dX2_wordOf_17 (lv_at hl 0 rfl) ?_
      refine gR_i (va_runV (As := [.int (nI i)]) (rest := []) ⟨hx, hb, hml, hown, hts⟩ (c_X2_isOpen l D K h0 hv hs n mask i ) (cwV 1 hts gX2_wordOf_X2_isOpen rfl rfl rfl (by decide +kernel) ⟨Nat.le_of_ble_eq_true rfl, Nat.le_of_ble_eq_true rfl⟩) (gR_preV hE hS hK hP [0] rfl 0 rfl rfl rfl) rfl rfl hl.1 rfl (lv_room (Nat.le_of_ble_eq_true rfl)) dX2_wordOf_19 ⟨Nat.le_of_ble_eq_true rfl, Nat.le_of_ble_eq_true rfl⟩) hS hP (fun rv7 H locs h6 hP hS => ?_)
      have h6 : rv7 = (if opn mask i then 1 else 0) := h6
      subst h6
      refine lv_if_eq (tgt := 38) hx hb dX2_wordOf_22 (by decide) (fun c22 => ?_) (fun c22 => ?_)
      · skip
        have c22 : ¬ (opn mask i) := b_eq0 c22
        refine lv_iinc (v := nI (i + 1)) (lv' := [(4, .int (nI (i + 1))), (3, .int (x >>> (nI (cntO mask i) &&& 31))), (2, .int (wrd mask x i)), (0, .ref h0), (1, .int x)]) hx hb dX2_wordOf_38 hl (k := 0) rfl (nI_add i 1) (by decide) rfl (fun ls hl => ?_)
        refine lv_goto (tgt := 7) hx hb dX2_wordOf_41 (by decide) ?_
        have e9 : (wrd mask x i) = (wrd mask x i + 1) := by show _ = (if opn mask i then wrd mask x i ||| (bitI x (cntO mask i) <<< (nI i &&& 31)) else wrd mask x i); first | rw [if_pos c22]; rfl | rw [if_neg c22]
        rw [e9] at hl
        have e9 : (x >>> (nI (cntO mask i) &&& 31)) = (x >>> (nI (cntO mask i + 1) &&& 31)) := by show _ = x >>> (nI (cntO mask i + (if opn mask i then 1 else 0)) &&& 31); first | (rw [if_pos c22]; exact shr_shr x _ (by omega)) | rw [if_neg c22]; rfl
        rw [e9] at hl
        exact ih1 H locs ls ⟨hP, hS, lv_sub hl [0, 1, 2, 3, 4] rfl⟩
      · skip
        have c22 : opn mask i := b_ne0 c22
        refine lv_iload_n hx hb dX2_wordOf_25 rfl (lv_at hl 2 rfl) ?_
        refine lv_iload_n hx hb dX2_wordOf_26 rfl (lv_at hl 1 rfl) ?_
        refine lv_iconst (v := 1) hx hb dX2_wordOf_27 (by decide) ?_
        refine lv_iand hx hb dX2_wordOf_28 ?_
        refine lv_iload hx hb dX2_wordOf_29 (lv_at hl 0 rfl) ?_
        refine lv_ishl hx hb dX2_wordOf_31 ?_
        refine lv_ior hx hb dX2_wordOf_32 ?_
        refine lv_istore_n (lv' := [(2, .int (wrd mask x i ||| ((x >>> (nI (cntO mask i) &&& 31) &&& 1) <<< ((nI i) &&& 31)))), (4, .int (nI i)), (3, .int (x >>> (nI (cntO mask i) &&& 31))), (0, .ref h0), (1, .int x)]) hx hb dX2_wordOf_33 rfl hl (by decide) rfl (fun ls hl => ?_)
        refine lv_iload_n hx hb dX2_wordOf_34 rfl (lv_at hl 2 rfl) ?_
        refine lv_iconst (v := 1) hx hb dX2_wordOf_35 (by decide) ?_
        refine lv_ishr hx hb dX2_wordOf_36 ?_
        refine lv_istore_n (lv' := [(3, .int ((x >>> (nI (cntO mask i) &&& 31)) >>> (1 &&& 31))), (2, .int (wrd mask x i ||| ((x >>> (nI (cntO mask i) &&& 31) &&& 1) <<< ((nI i) &&& 31)))), (4, .int (nI i)), (0, .ref h0), (1, .int x)]) hx hb dX2_wordOf_37 rfl hl (by decide) rfl (fun ls hl => ?_)
        refine lv_iinc (v := nI (i + 1)) (lv' := [(4, .int (nI (i + 1))), (3, .int ((x >>> (nI (cntO mask i) &&& 31)) >>> (1 &&& 31))), (2, .int (wrd mask x i ||| ((x >>> (nI (cntO mask i) &&& 31) &&& 1) <<< ((nI i) &&& 31)))), (0, .ref h0), (1, .int x)]) hx hb dX2_wordOf_38 hl (k := 2) rfl (nI_add i 1) (by decide) rfl (fun ls hl => ?_)
        refine lv_goto (tgt := 7) hx hb dX2_wordOf_41 (by decide) ?_
        have e9 : (wrd mask x i ||| ((x >>> (nI (cntO mask i) &&& 31) &&& 1) <<< ((nI i) &&& 31))) = (wrd mask x i + 1) := by show _ = (if opn mask i then wrd mask x i ||| (bitI x (cntO mask i) <<< (nI i &&& 31)) else wrd mask x i); first | rw [if_pos c22]; rfl | rw [if_neg c22]
        rw [e9] at hl
        have e9 : ((x >>> (nI (cntO mask i) &&& 31)) >>> (1 &&& 31)) = (x >>> (nI (cntO mask i + 1) &&& 31)) := by show _ = x >>> (nI (cntO mask i + (if opn mask i then 1 else 0)) &&& 31); first | (rw [if_pos c22]; exact shr_shr x _ (by omega)) | rw [if_neg c22]; rfl
        rw [e9] at hl
        exact ih1 H locs ls ⟨hP, hS, lv_sub hl [0, 1, 2, 3, 4] rfl⟩
  · exact ⟨hP, hS, lv_sub hl [0, 1, 2, 3, 4] rfl⟩

set_option maxHeartbeats 4000000 in
set_option maxRecDepth 100000 in
theorem c_X2_messageOf (l : Launch) (D : va_G) (K : Nat → ClassId) (h0 : Nat) (hv : Nat) (hs : Nat) (n : Nat) (mask : Int32) (x : Int32) (hn : okN n) : MRi l yX2_messageOf wsX2_messageOf ({ frames := 1, cells := 0, slots := 0, locals := 21 } : Room) D (gTy K) [.ref h0, .int x] [(h0, .inr (2, [.ref hv, .ref hs, .int (nI n), .int mask]))] (fun r => r = mso mask x n) := by
  refine g_ofR (cc := cX2_messageOf) (maxL := 5) (ret := (some .int)) (own := RX2) (by decide) rfl rfl (Nat.le_of_ble_eq_true rfl) ?_
  intro pp ee s mm below meth cc hfx hK hP hE hS ls hl
  obtain ⟨hx, hb, hr, hml, hown, hts, hlk⟩ := hfx
  have hl : lv_has ls 5 [(4, .int 0), (3, .int 0), (2, .int 0), (0, .ref h0), (1, .int x)] := hl
  have hi2 : ∀ w ∈ u_ws RX2 TX2 4, w ∈ wsX2_messageOf := fun w h => List.mem_cons_of_mem _ (List.mem_append_right _ (h))
  have hnl := hn.le
  refine lv_iconst (v := 0) hx hb dX2_messageOf_0 (by decide) ?_
  refine lv_istore_n (lv' := [(2, .int 0), (0, .ref h0), (1, .int x)]) hx hb dX2_messageOf_1 rfl hl (by decide) rfl (fun ls hl => ?_)
  refine lv_iconst (v := 0) hx hb dX2_messageOf_2 (by decide) ?_
  refine lv_istore_n (lv' := [(3, .int 0), (2, .int 0), (0, .ref h0), (1, .int x)]) hx hb dX2_messageOf_3 rfl hl (by decide) rfl (fun ls hl => ?_)
  refine lv_iconst (v := 0) hx hb dX2_messageOf_4 (by decide) ?_
  refine lv_istore (lv' := [(4, .int 0), (3, .int 0), (2, .int 0), (0, .ref h0), (1, .int x)]) hx hb dX2_messageOf_5 hl (by decide) rfl (fun ls hl => ?_)
  refine g_loopW (st := []) (N := n) (fun i H locs ls => va_P D vwCl [(h0, .inr (2, [.ref hv, .ref hs, .int (nI n), .int mask]))] H ∧ va_S gNo s.heap H locs ∧ lv_has ls 5 [(4, .int (nI i)), (3, .int (nI (cntO mask i))), (2, .int (mso mask x i)), (0, .ref h0), (1, .int x)]) 0 (Nat.zero_le _) ?_ ?_ ?_
  · intro H locs ls hI
    obtain ⟨hP, hS, hl⟩ := hI
    refine lv_iload hx hb dX2_messageOf_7 (lv_at hl 0 rfl) ?_
    refine lv_aload_n hx hb dX2_messageOf_9 rfl (lv_at hl 3 rfl) ?_
    refine va_get (D := D) (ci := 2) (v := .int (nI n)) (C := RX2) (T := TX2) (N := 4) hx hb hts hi2 hown hK hP 0 rfl rfl 2 (by decide) (hts (.fieldLink RX2 18 "PairedChannels$Word" "places" "I") (List.mem_of_getElem? (i := 1) (by decide +kernel))) (fun _ h9 => h9) rfl dX2_messageOf_10 ?_
    refine lv_icmp_ge (tgt := 45) hx hb dX2_messageOf_13 (by decide) (fun c2 => ?_) (fun c2 => ?_)
    · skip
      have c2 : n ≤ n := (nI_leI (a := n) (b := n) (by omega) (by omega)).mp c2
      refine lv_iload_n hx hb dX2_messageOf_45 rfl (lv_at hl 2 rfl) ?_
      exact gR_iret (v := mso mask x n) hx hb hr hlk (rfl) hS (rfl) dX2_messageOf_46
    · skip
      have c2 : ¬ n ≤ n := fun h9 => c2 ((nI_leI (a := n) (b := n) (by omega) (by omega)).mpr h9)
      omega
  · intro i hi ih1 H locs ls hI
    obtain ⟨hP, hS, hl⟩ := hI
    have hci := cntO_le mask i
    refine lv_iload hx hb dX2_messageOf_7 (lv_at hl 0 rfl) ?_
    refine lv_aload_n hx hb dX2_messageOf_9 rfl (lv_at hl 3 rfl) ?_
    refine va_get (D := D) (ci := 2) (v := .int (nI n)) (C := RX2) (T := TX2) (N := 4) hx hb hts hi2 hown hK hP 0 rfl rfl 2 (by decide) (hts (.fieldLink RX2 18 "PairedChannels$Word" "places" "I") (List.mem_of_getElem? (i := 1) (by decide +kernel))) (fun _ h9 => h9) rfl dX2_messageOf_10 ?_
    refine lv_icmp_ge (tgt := 45) hx hb dX2_messageOf_13 (by decide) (fun c3 => ?_) (fun c3 => ?_)
    · skip
      have c3 : n ≤ i := (nI_leI (a := n) (b := i) (by omega) (by omega)).mp c3
      omega
    · skip
      have c3 : ¬ n ≤ i := fun h9 => c3 ((nI_leI (a := n) (b := i) (by omega) (by omega)).mpr h9)
      refine lv_aload_n hx hb dX2_messageOf_16 rfl (lv_at hl 3 rfl) ?_
      refine lv_iload hx hb dX2_messageOf_17 (lv_at hl 0 rfl) ?_
      refine gR_i (va_runV (As := [.int (nI i)]) (rest := []) ⟨hx, hb, hml, hown, hts⟩ (c_X2_isOpen l D K h0 hv hs n mask i ) (cwV 1 hts gX2_messageOf_X2_isOpen rfl rfl rfl (by decide +kernel) ⟨Nat.le_of_ble_eq_true rfl, Nat.le_of_ble_eq_true rfl⟩) (gR_preV hE hS hK hP [0] rfl 0 rfl rfl rfl) rfl rfl hl.1 rfl (lv_room (Nat.le_of_ble_eq_true rfl)) dX2_messageOf_19 ⟨Nat.le_of_ble_eq_true rfl, Nat.le_of_ble_eq_true rfl⟩) hS hP (fun rv5 H locs h4 hP hS => ?_)
      have h4 : rv5 = (if opn mask i then 1 else 0) := h4
      subst h4
      refine lv_if_eq (tgt := 39) hx hb dX2_messageOf_22 (by decide) (fun c22 => ?_) (fun c22 => ?_)
      · skip
        have c22 : ¬ (opn mask i) := b_eq0 c22
        refine lv_iinc (v := nI (i + 1)) (lv' := [(4, .int (nI (i + 1))), (3, .int (nI (cntO mask i))), (2, .int (mso mask x i)), (0, .ref h0), (1, .int x)]) hx hb dX2_messageOf_39 hl (k := 0) rfl (nI_add i 1) (by decide) rfl (fun ls hl => ?_)
        refine lv_goto (tgt := 7) hx hb dX2_messageOf_42 (by decide) ?_
        have e9 : (mso mask x i) = (mso mask x i + 1) := by show _ = (if opn mask i then mso mask x i ||| (bitI x i <<< (nI (cntO mask i) &&& 31)) else mso mask x i); first | rw [if_pos c22] | rw [if_neg c22]
        rw [e9] at hl
        have e9 : (nI (cntO mask i)) = (nI (cntO mask i + 1)) := congrArg nI (by show _ = cntO mask i + (if opn mask i then 1 else 0); first | rw [if_pos c22] | rw [if_neg c22]; rfl)
        rw [e9] at hl
        exact ih1 H locs ls ⟨hP, hS, lv_sub hl [0, 1, 2, 3, 4] rfl⟩
      · skip
        have c22 : opn mask i := b_ne0 c22
        refine lv_iload_n hx hb dX2_messageOf_25 rfl (lv_at hl 2 rfl) ?_
        refine lv_iload_n hx hb dX2_messageOf_26 rfl (lv_at hl 4 rfl) ?_
        refine lv_iload hx hb dX2_messageOf_27 (lv_at hl 0 rfl) ?_
        refine lv_ishr hx hb dX2_messageOf_29 ?_
        refine lv_iconst (v := 1) hx hb dX2_messageOf_30 (by decide) ?_
        refine lv_iand hx hb dX2_messageOf_31 ?_
        refine lv_eqi (bitI x i) rfl ?_
        refine lv_iload_n hx hb dX2_messageOf_32 rfl (lv_at hl 1 rfl) ?_
        refine lv_ishl hx hb dX2_messageOf_33 ?_
        refine lv_ior hx hb dX2_messageOf_34 ?_
        refine lv_istore_n (lv' := [(2, .int (mso mask x i ||| ((bitI x i) <<< ((nI (cntO mask i)) &&& 31)))), (4, .int (nI i)), (3, .int (nI (cntO mask i))), (0, .ref h0), (1, .int x)]) hx hb dX2_messageOf_35 rfl hl (by decide) rfl (fun ls hl => ?_)
        refine lv_iinc (v := nI (cntO mask i + 1)) (lv' := [(3, .int (nI (cntO mask i + 1))), (2, .int (mso mask x i ||| ((bitI x i) <<< ((nI (cntO mask i)) &&& 31)))), (4, .int (nI i)), (0, .ref h0), (1, .int x)]) hx hb dX2_messageOf_36 hl (k := 2) rfl (nI_add (cntO mask i) 1) (by decide) rfl (fun ls hl => ?_)
        refine lv_iinc (v := nI (i + 1)) (lv' := [(4, .int (nI (i + 1))), (3, .int (nI (cntO mask i + 1))), (2, .int (mso mask x i ||| ((bitI x i) <<< ((nI (cntO mask i)) &&& 31)))), (0, .ref h0), (1, .int x)]) hx hb dX2_messageOf_39 hl (k := 2) rfl (nI_add i 1) (by decide) rfl (fun ls hl => ?_)
        refine lv_goto (tgt := 7) hx hb dX2_messageOf_42 (by decide) ?_
        have e9 : (mso mask x i ||| ((bitI x i) <<< ((nI (cntO mask i)) &&& 31))) = (mso mask x i + 1) := by show _ = (if opn mask i then mso mask x i ||| (bitI x i <<< (nI (cntO mask i) &&& 31)) else mso mask x i); first | rw [if_pos c22] | rw [if_neg c22]
        rw [e9] at hl
        exact ih1 H locs ls ⟨hP, hS, lv_sub hl [0, 1, 2, 3, 4] rfl⟩
  · exact ⟨hP, hS, lv_sub hl [0, 1, 2, 3, 4] rfl⟩

set_option maxHeartbeats 4000000 in
set_option maxRecDepth 100000 in
theorem c_X2_differences (l : Launch) (D : va_G) (K : Nat → ClassId) (h0 : Nat) (hv : Nat) (hs : Nat) (n : Nat) (mask : Int32) (vf : Nat → Int32) (x : Int32) (hn : okN n) : MRi l yX2_differences wsX2_differences ({ frames := 0, cells := 0, slots := 0, locals := 0 } : Room) D (gTy K) [.ref h0, .int x] [(h0, .inr (2, [.ref hv, .ref hs, .int (nI n), .int mask])), (hv, .inl (K 0, 16, .inl vf))] (fun r => r = nI (difS x vf n)) := by
  refine g_ofR (cc := cX2_differences) (maxL := 5) (ret := (some .int)) (own := RX2) (by decide) rfl rfl (Nat.le_of_ble_eq_true rfl) ?_
  intro pp ee s mm below meth cc hfx hK hP hE hS ls hl
  obtain ⟨hx, hb, hr, hml, hown, hts, hlk⟩ := hfx
  have hl : lv_has ls 5 [(3, .int 0), (2, .int 0), (0, .ref h0), (1, .int x)] := hl
  have hi2 : ∀ w ∈ u_ws RX2 TX2 4, w ∈ wsX2_differences := fun w h => List.mem_cons_of_mem _ (List.mem_append_right _ (h))
  have hnl := hn.le
  refine lv_iconst (v := 0) hx hb dX2_differences_0 (by decide) ?_
  refine lv_istore_n (lv' := [(2, .int 0), (0, .ref h0), (1, .int x)]) hx hb dX2_differences_1 rfl hl (by decide) rfl (fun ls hl => ?_)
  refine lv_iconst (v := 0) hx hb dX2_differences_2 (by decide) ?_
  refine lv_istore_n (lv' := [(3, .int 0), (2, .int 0), (0, .ref h0), (1, .int x)]) hx hb dX2_differences_3 rfl hl (by decide) rfl (fun ls hl => ?_)
  refine g_loopW (st := []) (N := n) (fun i H locs ls => va_P D vwCl [(h0, .inr (2, [.ref hv, .ref hs, .int (nI n), .int mask])), (hv, .inl (K 0, 16, .inl vf))] H ∧ va_S gNo s.heap H locs ∧ lv_has ls 5 [(3, .int (nI i)), (2, .int (nI (difS x vf i))), (0, .ref h0), (1, .int x)]) 0 (Nat.zero_le _) ?_ ?_ ?_
  · intro H locs ls hI
    obtain ⟨hP, hS, hl⟩ := hI
    refine lv_iload_n hx hb dX2_differences_4 rfl (lv_at hl 0 rfl) ?_
    refine lv_aload_n hx hb dX2_differences_5 rfl (lv_at hl 2 rfl) ?_
    refine va_get (D := D) (ci := 2) (v := .int (nI n)) (C := RX2) (T := TX2) (N := 4) hx hb hts hi2 hown hK hP 0 rfl rfl 2 (by decide) (hts (.fieldLink RX2 18 "PairedChannels$Word" "places" "I") (List.mem_of_getElem? (i := 1) (by decide +kernel))) (fun _ h9 => h9) rfl dX2_differences_6 ?_
    refine lv_icmp_ge (tgt := 63) hx hb dX2_differences_9 (by decide) (fun c2 => ?_) (fun c2 => ?_)
    · skip
      have c2 : n ≤ n := (nI_leI (a := n) (b := n) (by omega) (by omega)).mp c2
      refine lv_iload_n hx hb dX2_differences_63 rfl (lv_at hl 1 rfl) ?_
      exact gR_iret (v := nI (difS x vf n)) hx hb hr hlk (rfl) hS (rfl) dX2_differences_64
    · skip
      have c2 : ¬ n ≤ n := fun h9 => c2 ((nI_leI (a := n) (b := n) (by omega) (by omega)).mpr h9)
      omega
  · intro i hi ih1 H locs ls hI
    obtain ⟨hP, hS, hl⟩ := hI
    have hdi := difS_le x vf i
    refine lv_iload_n hx hb dX2_differences_4 rfl (lv_at hl 0 rfl) ?_
    refine lv_aload_n hx hb dX2_differences_5 rfl (lv_at hl 2 rfl) ?_
    refine va_get (D := D) (ci := 2) (v := .int (nI n)) (C := RX2) (T := TX2) (N := 4) hx hb hts hi2 hown hK hP 0 rfl rfl 2 (by decide) (hts (.fieldLink RX2 18 "PairedChannels$Word" "places" "I") (List.mem_of_getElem? (i := 1) (by decide +kernel))) (fun _ h9 => h9) rfl dX2_differences_6 ?_
    refine lv_icmp_ge (tgt := 63) hx hb dX2_differences_9 (by decide) (fun c3 => ?_) (fun c3 => ?_)
    · skip
      have c3 : n ≤ i := (nI_leI (a := n) (b := i) (by omega) (by omega)).mp c3
      omega
    · skip
      have c3 : ¬ n ≤ i := fun h9 => c3 ((nI_leI (a := n) (b := i) (by omega) (by omega)).mpr h9)
      refine lv_iload_n hx hb dX2_differences_12 rfl (lv_at hl 3 rfl) ?_
      refine lv_iload_n hx hb dX2_differences_13 rfl (lv_at hl 0 rfl) ?_
      refine lv_ishr hx hb dX2_differences_14 ?_
      refine lv_iconst (v := 1) hx hb dX2_differences_15 (by decide) ?_
      refine lv_iand hx hb dX2_differences_16 ?_
      refine lv_eqi (bitI x i) rfl ?_
      refine lv_iconst (v := 1) hx hb dX2_differences_17 (by decide) ?_
      refine g_cut (F0 mm 26 ls [.int (if bitI x i = 1 then 1 else 0)]) (fun hJ => ?_) ?_
      · refine lv_icmp_ne (tgt := 25) hx hb dX2_differences_18 (by decide) (fun c4 => ?_) (fun c4 => ?_)
        · skip
          refine lv_iconst (v := 0) hx hb dX2_differences_25 (by decide) ?_
          rw [if_neg (fun h => h c4)] at hJ
          exact hJ
        · skip
          refine lv_iconst (v := 1) hx hb dX2_differences_21 (by decide) ?_
          refine lv_goto (tgt := 26) hx hb dX2_differences_22 (by decide) ?_
          rw [if_pos (by first | exact c4 | exact Decidable.not_not.mp c4 | exact (by simpa using c4))] at hJ
          exact hJ
      · skip
        refine lv_istore (lv' := [(4, .int (if bitI x i = 1 then 1 else 0)), (3, .int (nI i)), (2, .int (nI (difS x vf i))), (0, .ref h0), (1, .int x)]) hx hb dX2_differences_26 hl (by decide) rfl (fun ls hl => ?_)
        refine lv_iload hx hb dX2_differences_28 (lv_at hl 0 rfl) ?_
        refine lv_if_eq (tgt := 45) hx hb dX2_differences_30 (by decide) (fun c30 => ?_) (fun c30 => ?_)
        · skip
          have c30 : ¬ (bitI x i = 1) := b_eq0 c30
          refine lv_aload_n hx hb dX2_differences_45 rfl (lv_at hl 3 rfl) ?_
          refine va_get (D := D) (ci := 2) (v := .ref hv) (C := RX2) (T := TX2) (N := 4) hx hb hts hi2 hown hK hP 0 rfl rfl 0 (by decide) (hts (.fieldLink RX2 9 "PairedChannels$Word" "values" "[I") (List.mem_of_getElem? (i := 2) (by decide +kernel))) (fun _ h9 => h9) rfl dX2_differences_46 ?_
          refine lv_iload_n hx hb dX2_differences_49 rfl (lv_at hl 1 rfl) ?_
          refine wa_iald hx hb hK hP 1 0 rfl rfl (i) rfl (by omega) (by decide) dX2_differences_50 ?_
          refine lv_if_ge (tgt := 57) hx hb dX2_differences_51 (by decide) (fun c51 => ?_) (fun c51 => ?_)
          · skip
            refine lv_iinc (v := nI (i + 1)) (lv' := [(3, .int (nI (i + 1))), (4, .int (if bitI x i = 1 then 1 else 0)), (2, .int (nI (difS x vf i))), (0, .ref h0), (1, .int x)]) hx hb dX2_differences_57 hl (k := 1) rfl (nI_add i 1) (by decide) rfl (fun ls hl => ?_)
            refine lv_goto (tgt := 4) hx hb dX2_differences_60 (by decide) ?_
            have e9 : (nI (difS x vf i)) = (nI (difS x vf i + 1)) := congrArg nI (by show _ = difS x vf i + (if bitI x i = 1 then (if 0 < vf i then 1 else 0) else (if vf i < 0 then 1 else 0)); first | rw [if_pos c30, if_pos (Int32.not_le.mp c39)] | (rw [if_pos c30, if_neg (fun h => absurd c39 (Int32.not_le.mpr h))]; rfl) | rw [if_neg c30, if_pos (Int32.not_le.mp c51)] | (rw [if_neg c30, if_neg (fun h => absurd c51 (Int32.not_le.mpr h))]; rfl))
            rw [e9] at hl
            exact ih1 H locs ls ⟨hP, hS, lv_sub hl [0, 2, 3, 4] rfl⟩
          · skip
            refine lv_iinc (v := nI (difS x vf i + 1)) (lv' := [(2, .int (nI (difS x vf i + 1))), (4, .int (if bitI x i = 1 then 1 else 0)), (3, .int (nI i)), (0, .ref h0), (1, .int x)]) hx hb dX2_differences_54 hl (k := 2) rfl (nI_add (difS x vf i) 1) (by decide) rfl (fun ls hl => ?_)
            refine lv_iinc (v := nI (i + 1)) (lv' := [(3, .int (nI (i + 1))), (2, .int (nI (difS x vf i + 1))), (4, .int (if bitI x i = 1 then 1 else 0)), (0, .ref h0), (1, .int x)]) hx hb dX2_differences_57 hl (k := 2) rfl (nI_add i 1) (by decide) rfl (fun ls hl => ?_)
            refine lv_goto (tgt := 4) hx hb dX2_differences_60 (by decide) ?_
            exact ih1 H locs ls ⟨hP, hS, lv_sub hl [0, 1, 3, 4] rfl⟩
        · skip
          have c30 : bitI x i = 1 := b_ne0 c30
          refine lv_aload_n hx hb dX2_differences_33 rfl (lv_at hl 3 rfl) ?_
          refine va_get (D := D) (ci := 2) (v := .ref hv) (C := RX2) (T := TX2) (N := 4) hx hb hts hi2 hown hK hP 0 rfl rfl 0 (by decide) (hts (.fieldLink RX2 9 "PairedChannels$Word" "values" "[I") (List.mem_of_getElem? (i := 2) (by decide +kernel))) (fun _ h9 => h9) rfl dX2_differences_34 ?_
          refine lv_iload_n hx hb dX2_differences_37 rfl (lv_at hl 1 rfl) ?_
          refine wa_iald hx hb hK hP 1 0 rfl rfl (i) rfl (by omega) (by decide) dX2_differences_38 ?_
          refine lv_if_le (tgt := 57) hx hb dX2_differences_39 (by decide) (fun c39 => ?_) (fun c39 => ?_)
          · skip
            refine lv_iinc (v := nI (i + 1)) (lv' := [(3, .int (nI (i + 1))), (4, .int (if bitI x i = 1 then 1 else 0)), (2, .int (nI (difS x vf i))), (0, .ref h0), (1, .int x)]) hx hb dX2_differences_57 hl (k := 1) rfl (nI_add i 1) (by decide) rfl (fun ls hl => ?_)
            refine lv_goto (tgt := 4) hx hb dX2_differences_60 (by decide) ?_
            have e9 : (nI (difS x vf i)) = (nI (difS x vf i + 1)) := congrArg nI (by show _ = difS x vf i + (if bitI x i = 1 then (if 0 < vf i then 1 else 0) else (if vf i < 0 then 1 else 0)); first | rw [if_pos c30, if_pos (Int32.not_le.mp c39)] | (rw [if_pos c30, if_neg (fun h => absurd c39 (Int32.not_le.mpr h))]; rfl) | rw [if_neg c30, if_pos (Int32.not_le.mp c51)] | (rw [if_neg c30, if_neg (fun h => absurd c51 (Int32.not_le.mpr h))]; rfl))
            rw [e9] at hl
            exact ih1 H locs ls ⟨hP, hS, lv_sub hl [0, 2, 3, 4] rfl⟩
          · skip
            refine lv_goto (tgt := 54) hx hb dX2_differences_42 (by decide) ?_
            refine lv_iinc (v := nI (difS x vf i + 1)) (lv' := [(2, .int (nI (difS x vf i + 1))), (4, .int (if bitI x i = 1 then 1 else 0)), (3, .int (nI i)), (0, .ref h0), (1, .int x)]) hx hb dX2_differences_54 hl (k := 2) rfl (nI_add (difS x vf i) 1) (by decide) rfl (fun ls hl => ?_)
            refine lv_iinc (v := nI (i + 1)) (lv' := [(3, .int (nI (i + 1))), (2, .int (nI (difS x vf i + 1))), (4, .int (if bitI x i = 1 then 1 else 0)), (0, .ref h0), (1, .int x)]) hx hb dX2_differences_57 hl (k := 2) rfl (nI_add i 1) (by decide) rfl (fun ls hl => ?_)
            refine lv_goto (tgt := 4) hx hb dX2_differences_60 (by decide) ?_
            exact ih1 H locs ls ⟨hP, hS, lv_sub hl [0, 1, 3, 4] rfl⟩
  · exact ⟨hP, hS, lv_sub hl [0, 1, 2, 3] rfl⟩

set_option maxHeartbeats 4000000 in
set_option maxRecDepth 100000 in
theorem c_X2_zeroValues (l : Launch) (D : va_G) (K : Nat → ClassId) (h0 : Nat) (hv : Nat) (hs : Nat) (n : Nat) (mask : Int32) (vf : Nat → Int32) (hn : okN n) : MRi l yX2_zeroValues wsX2_zeroValues ({ frames := 0, cells := 0, slots := 0, locals := 0 } : Room) D (gTy K) [.ref h0] [(h0, .inr (2, [.ref hv, .ref hs, .int (nI n), .int mask])), (hv, .inl (K 0, 16, .inl vf))] (fun r => r = nI (zerS vf n)) := by
  refine g_ofR (cc := cX2_zeroValues) (maxL := 3) (ret := (some .int)) (own := RX2) (by decide) rfl rfl (Nat.le_of_ble_eq_true rfl) ?_
  intro pp ee s mm below meth cc hfx hK hP hE hS ls hl
  obtain ⟨hx, hb, hr, hml, hown, hts, hlk⟩ := hfx
  have hl : lv_has ls 3 [(2, .int 0), (1, .int 0), (0, .ref h0)] := hl
  have hi2 : ∀ w ∈ u_ws RX2 TX2 4, w ∈ wsX2_zeroValues := fun w h => List.mem_cons_of_mem _ (List.mem_append_right _ (h))
  have hnl := hn.le
  refine lv_iconst (v := 0) hx hb dX2_zeroValues_0 (by decide) ?_
  refine lv_istore_n (lv' := [(1, .int 0), (0, .ref h0)]) hx hb dX2_zeroValues_1 rfl hl (by decide) rfl (fun ls hl => ?_)
  refine lv_iconst (v := 0) hx hb dX2_zeroValues_2 (by decide) ?_
  refine lv_istore_n (lv' := [(2, .int 0), (1, .int 0), (0, .ref h0)]) hx hb dX2_zeroValues_3 rfl hl (by decide) rfl (fun ls hl => ?_)
  refine g_loopW (st := []) (N := n) (fun i H locs ls => va_P D vwCl [(h0, .inr (2, [.ref hv, .ref hs, .int (nI n), .int mask])), (hv, .inl (K 0, 16, .inl vf))] H ∧ va_S gNo s.heap H locs ∧ lv_has ls 3 [(2, .int (nI i)), (1, .int (nI (zerS vf i))), (0, .ref h0)]) 0 (Nat.zero_le _) ?_ ?_ ?_
  · intro H locs ls hI
    obtain ⟨hP, hS, hl⟩ := hI
    refine lv_iload_n hx hb dX2_zeroValues_4 rfl (lv_at hl 0 rfl) ?_
    refine lv_aload_n hx hb dX2_zeroValues_5 rfl (lv_at hl 2 rfl) ?_
    refine va_get (D := D) (ci := 2) (v := .int (nI n)) (C := RX2) (T := TX2) (N := 4) hx hb hts hi2 hown hK hP 0 rfl rfl 2 (by decide) (hts (.fieldLink RX2 18 "PairedChannels$Word" "places" "I") (List.mem_of_getElem? (i := 1) (by decide +kernel))) (fun _ h9 => h9) rfl dX2_zeroValues_6 ?_
    refine lv_icmp_ge (tgt := 35) hx hb dX2_zeroValues_9 (by decide) (fun c2 => ?_) (fun c2 => ?_)
    · skip
      have c2 : n ≤ n := (nI_leI (a := n) (b := n) (by omega) (by omega)).mp c2
      refine lv_iload_n hx hb dX2_zeroValues_35 rfl (lv_at hl 1 rfl) ?_
      exact gR_iret (v := nI (zerS vf n)) hx hb hr hlk (rfl) hS (rfl) dX2_zeroValues_36
    · skip
      have c2 : ¬ n ≤ n := fun h9 => c2 ((nI_leI (a := n) (b := n) (by omega) (by omega)).mpr h9)
      omega
  · intro i hi ih1 H locs ls hI
    obtain ⟨hP, hS, hl⟩ := hI
    refine lv_iload_n hx hb dX2_zeroValues_4 rfl (lv_at hl 0 rfl) ?_
    refine lv_aload_n hx hb dX2_zeroValues_5 rfl (lv_at hl 2 rfl) ?_
    refine va_get (D := D) (ci := 2) (v := .int (nI n)) (C := RX2) (T := TX2) (N := 4) hx hb hts hi2 hown hK hP 0 rfl rfl 2 (by decide) (hts (.fieldLink RX2 18 "PairedChannels$Word" "places" "I") (List.mem_of_getElem? (i := 1) (by decide +kernel))) (fun _ h9 => h9) rfl dX2_zeroValues_6 ?_
    refine lv_icmp_ge (tgt := 35) hx hb dX2_zeroValues_9 (by decide) (fun c3 => ?_) (fun c3 => ?_)
    · skip
      have c3 : n ≤ i := (nI_leI (a := n) (b := i) (by omega) (by omega)).mp c3
      omega
    · skip
      have c3 : ¬ n ≤ i := fun h9 => c3 ((nI_leI (a := n) (b := i) (by omega) (by omega)).mpr h9)
      refine lv_iload_n hx hb dX2_zeroValues_12 rfl (lv_at hl 1 rfl) ?_
      refine lv_aload_n hx hb dX2_zeroValues_13 rfl (lv_at hl 2 rfl) ?_
      refine va_get (D := D) (ci := 2) (v := .ref hv) (C := RX2) (T := TX2) (N := 4) hx hb hts hi2 hown hK hP 0 rfl rfl 0 (by decide) (hts (.fieldLink RX2 9 "PairedChannels$Word" "values" "[I") (List.mem_of_getElem? (i := 2) (by decide +kernel))) (fun _ h9 => h9) rfl dX2_zeroValues_14 ?_
      refine lv_iload_n hx hb dX2_zeroValues_17 rfl (lv_at hl 0 rfl) ?_
      refine wa_iald hx hb hK hP 1 0 rfl rfl (i) rfl (by omega) (by decide) dX2_zeroValues_18 ?_
      refine g_cut (F0 mm 27 ls [.int (if vf i = 0 then 1 else 0), .int (nI (zerS vf i))]) (fun hJ => ?_) ?_
      · refine lv_if_ne (tgt := 26) hx hb dX2_zeroValues_19 (by decide) (fun c4 => ?_) (fun c4 => ?_)
        · skip
          refine lv_iconst (v := 0) hx hb dX2_zeroValues_26 (by decide) ?_
          rw [if_neg (fun h => h c4)] at hJ
          exact hJ
        · skip
          refine lv_iconst (v := 1) hx hb dX2_zeroValues_22 (by decide) ?_
          refine lv_goto (tgt := 27) hx hb dX2_zeroValues_23 (by decide) ?_
          rw [if_pos (by first | exact c4 | exact Decidable.not_not.mp c4 | exact (by simpa using c4))] at hJ
          exact hJ
      · skip
        refine lv_iadd hx hb dX2_zeroValues_27 ?_
        refine lv_istore_n (lv' := [(1, .int (nI (zerS vf i) + (if vf i = 0 then 1 else 0))), (2, .int (nI i)), (0, .ref h0)]) hx hb dX2_zeroValues_28 rfl hl (by decide) rfl (fun ls hl => ?_)
        refine lv_iinc (v := nI (i + 1)) (lv' := [(2, .int (nI (i + 1))), (1, .int (nI (zerS vf i) + (if vf i = 0 then 1 else 0))), (0, .ref h0)]) hx hb dX2_zeroValues_29 hl (k := 1) rfl (nI_add i 1) (by decide) rfl (fun ls hl => ?_)
        refine lv_goto (tgt := 4) hx hb dX2_zeroValues_32 (by decide) ?_
        have e9 : (nI (zerS vf i) + (if vf i = 0 then 1 else 0)) = (nI (zerS vf i + 1)) := nI_ite _ _
        rw [e9] at hl
        exact ih1 H locs ls ⟨hP, hS, lv_sub hl [0, 1, 2] rfl⟩
  · exact ⟨hP, hS, lv_sub hl [0, 1, 2] rfl⟩

set_option maxHeartbeats 4000000 in
set_option maxRecDepth 100000 in
theorem c_X2_sumOfSizes (l : Launch) (D : va_G) (K : Nat → ClassId) (h0 : Nat) (hv : Nat) (hs : Nat) (n : Nat) (mask : Int32) (vf : Nat → Int32) (hn : okN n) : MRi l yX2_sumOfSizes wsX2_sumOfSizes ({ frames := 1, cells := 0, slots := 0, locals := 21 } : Room) D (gTy K) [.ref h0] [(h0, .inr (2, [.ref hv, .ref hs, .int (nI n), .int mask])), (hv, .inl (K 0, 16, .inl vf))] (fun r => r = sizS vf n) := by
  refine g_ofR (cc := cX2_sumOfSizes) (maxL := 3) (ret := (some .int)) (own := RX2) (by decide) rfl rfl (Nat.le_of_ble_eq_true rfl) ?_
  intro pp ee s mm below meth cc hfx hK hP hE hS ls hl
  obtain ⟨hx, hb, hr, hml, hown, hts, hlk⟩ := hfx
  have hl : lv_has ls 3 [(2, .int 0), (1, .int 0), (0, .ref h0)] := hl
  have hi2 : ∀ w ∈ u_ws RX2 TX2 4, w ∈ wsX2_sumOfSizes := fun w h => List.mem_cons_of_mem _ (List.mem_append_right _ (h))
  have hnl := hn.le
  refine lv_iconst (v := 0) hx hb dX2_sumOfSizes_0 (by decide) ?_
  refine lv_istore_n (lv' := [(1, .int 0), (0, .ref h0)]) hx hb dX2_sumOfSizes_1 rfl hl (by decide) rfl (fun ls hl => ?_)
  refine lv_iconst (v := 0) hx hb dX2_sumOfSizes_2 (by decide) ?_
  refine lv_istore_n (lv' := [(2, .int 0), (1, .int 0), (0, .ref h0)]) hx hb dX2_sumOfSizes_3 rfl hl (by decide) rfl (fun ls hl => ?_)
  refine g_loopW (st := []) (N := n) (fun i H locs ls => va_P D vwCl [(h0, .inr (2, [.ref hv, .ref hs, .int (nI n), .int mask])), (hv, .inl (K 0, 16, .inl vf))] H ∧ va_S gNo s.heap H locs ∧ lv_has ls 3 [(2, .int (nI i)), (1, .int (sizS vf i)), (0, .ref h0)]) 0 (Nat.zero_le _) ?_ ?_ ?_
  · intro H locs ls hI
    obtain ⟨hP, hS, hl⟩ := hI
    refine lv_iload_n hx hb dX2_sumOfSizes_4 rfl (lv_at hl 0 rfl) ?_
    refine lv_aload_n hx hb dX2_sumOfSizes_5 rfl (lv_at hl 2 rfl) ?_
    refine va_get (D := D) (ci := 2) (v := .int (nI n)) (C := RX2) (T := TX2) (N := 4) hx hb hts hi2 hown hK hP 0 rfl rfl 2 (by decide) (hts (.fieldLink RX2 18 "PairedChannels$Word" "places" "I") (List.mem_of_getElem? (i := 1) (by decide +kernel))) (fun _ h9 => h9) rfl dX2_sumOfSizes_6 ?_
    refine lv_icmp_ge (tgt := 30) hx hb dX2_sumOfSizes_9 (by decide) (fun c2 => ?_) (fun c2 => ?_)
    · skip
      have c2 : n ≤ n := (nI_leI (a := n) (b := n) (by omega) (by omega)).mp c2
      refine lv_iload_n hx hb dX2_sumOfSizes_30 rfl (lv_at hl 1 rfl) ?_
      exact gR_iret (v := sizS vf n) hx hb hr hlk (rfl) hS (rfl) dX2_sumOfSizes_31
    · skip
      have c2 : ¬ n ≤ n := fun h9 => c2 ((nI_leI (a := n) (b := n) (by omega) (by omega)).mpr h9)
      omega
  · intro i hi ih1 H locs ls hI
    obtain ⟨hP, hS, hl⟩ := hI
    refine lv_iload_n hx hb dX2_sumOfSizes_4 rfl (lv_at hl 0 rfl) ?_
    refine lv_aload_n hx hb dX2_sumOfSizes_5 rfl (lv_at hl 2 rfl) ?_
    refine va_get (D := D) (ci := 2) (v := .int (nI n)) (C := RX2) (T := TX2) (N := 4) hx hb hts hi2 hown hK hP 0 rfl rfl 2 (by decide) (hts (.fieldLink RX2 18 "PairedChannels$Word" "places" "I") (List.mem_of_getElem? (i := 1) (by decide +kernel))) (fun _ h9 => h9) rfl dX2_sumOfSizes_6 ?_
    refine lv_icmp_ge (tgt := 30) hx hb dX2_sumOfSizes_9 (by decide) (fun c3 => ?_) (fun c3 => ?_)
    · skip
      have c3 : n ≤ i := (nI_leI (a := n) (b := i) (by omega) (by omega)).mp c3
      omega
    · skip
      have c3 : ¬ n ≤ i := fun h9 => c3 ((nI_leI (a := n) (b := i) (by omega) (by omega)).mpr h9)
      refine lv_iload_n hx hb dX2_sumOfSizes_12 rfl (lv_at hl 1 rfl) ?_
      refine lv_aload_n hx hb dX2_sumOfSizes_13 rfl (lv_at hl 2 rfl) ?_
      refine va_get (D := D) (ci := 2) (v := .ref hv) (C := RX2) (T := TX2) (N := 4) hx hb hts hi2 hown hK hP 0 rfl rfl 0 (by decide) (hts (.fieldLink RX2 9 "PairedChannels$Word" "values" "[I") (List.mem_of_getElem? (i := 2) (by decide +kernel))) (fun _ h9 => h9) rfl dX2_sumOfSizes_14 ?_
      refine lv_iload_n hx hb dX2_sumOfSizes_17 rfl (lv_at hl 0 rfl) ?_
      refine wa_iald hx hb hK hP 1 0 rfl rfl (i) rfl (by omega) (by decide) dX2_sumOfSizes_18 ?_
      refine va_mabs hx hb (hml.trans hl.1.symm) hown (hts (.methodLink RX2 76 Lib.Math.abs.name) (List.mem_of_getElem? (i := 3) (by decide +kernel))) (hts (.static Lib.Math.abs.name) (List.mem_of_getElem? (i := 4) (by decide +kernel))) (hts (.initialized "java/lang/Math") (List.mem_of_getElem? (i := 5) (by decide +kernel))) (hts (.code Lib.Math.abs.name Lib.Math.abs.code 1 (some .int)) (List.mem_of_getElem? (i := 6) (by decide +kernel))) (Nat.le_of_ble_eq_true rfl) (Nat.le_of_ble_eq_true rfl) (Nat.le_of_ble_eq_true rfl) (Nat.le_of_ble_eq_true rfl) dX2_sumOfSizes_19 ?_
      refine lv_eqi (absI (vf i)) (abs_eq _) ?_
      refine lv_iadd hx hb dX2_sumOfSizes_22 ?_
      refine lv_istore_n (lv' := [(1, .int (sizS vf i + absI (vf i))), (2, .int (nI i)), (0, .ref h0)]) hx hb dX2_sumOfSizes_23 rfl hl (by decide) rfl (fun ls hl => ?_)
      refine lv_iinc (v := nI (i + 1)) (lv' := [(2, .int (nI (i + 1))), (1, .int (sizS vf i + absI (vf i))), (0, .ref h0)]) hx hb dX2_sumOfSizes_24 hl (k := 1) rfl (nI_add i 1) (by decide) rfl (fun ls hl => ?_)
      refine lv_goto (tgt := 4) hx hb dX2_sumOfSizes_27 (by decide) ?_
      have e9 : (sizS vf i + absI (vf i)) = (sizS vf i + 1) := rfl
      rw [e9] at hl
      exact ih1 H locs ls ⟨hP, hS, lv_sub hl [0, 1, 2] rfl⟩
  · exact ⟨hP, hS, lv_sub hl [0, 1, 2] rfl⟩

set_option maxHeartbeats 4000000 in
set_option maxRecDepth 100000 in
theorem c_X2_copyFrom (l : Launch) (D : va_G) (K : Nat → ClassId) (h0 : Nat) (hv : Nat) (hs : Nat) (n : Nat) (mask : Int32) (vf : Nat → Int32) (sf : Nat → Int32) (g0 : Nat) (gv : Nat) (gs : Nat) (n2 : Nat) (mask2 : Int32) (vf2 : Nat → Int32) (sf2 : Nat → Int32)  : MWv l yX2_copyFrom wsX2_copyFrom ({ frames := 1, cells := 0, slots := 0, locals := 40 } : Room) D (gTy K) [.ref h0, .ref g0] [(h0, .inr (2, [.ref hv, .ref hs, .int (nI n), .int mask])), (hv, .inl (K 0, 16, .inl vf)), (hs, .inl (K 0, 4, .inl sf)), (g0, .inr (2, [.ref gv, .ref gs, .int (nI n2), .int mask2])), (gv, .inl (K 0, 16, .inl vf2)), (gs, .inl (K 0, 4, .inl sf2))] (fun (u : Unit) => [(h0, .inr (2, [.ref hv, .ref hs, .int (nI n2), .int mask2])), (hv, .inl (K 0, 16, .inl vf2)), (hs, .inl (K 0, 4, .inl sf2)), (g0, .inr (2, [.ref gv, .ref gs, .int (nI n2), .int mask2])), (gv, .inl (K 0, 16, .inl vf2)), (gs, .inl (K 0, 4, .inl sf2))]) (fun (u : Unit) => True) 0 0 := by
  refine g_ofW (Qc := fun A => va_Qv _ (gB D (gTy K) A _) A) (cc := cX2_copyFrom) (maxL := 2) (ret := none) (own := RX2) (by decide) rfl rfl (Nat.le_of_ble_eq_true rfl) ?_
  intro pp ee s mm below meth cc A hfx hnm hK hP hD hE hS hA ls hl
  obtain ⟨hx, hb, hr, hml, hown, hts, hlk⟩ := hfx
  have hl : lv_has ls 2 [(0, .ref h0), (1, .ref g0)] := hl
  have hi2 : ∀ w ∈ u_ws RX2 TX2 4, w ∈ wsX2_copyFrom := fun w h => List.mem_cons_of_mem _ (List.mem_append_right _ (h))
  refine lv_aload_n hx hb dX2_copyFrom_0 rfl (lv_at hl 1 rfl) ?_
  refine va_get (D := D) (ci := 2) (v := .ref gv) (C := RX2) (T := TX2) (N := 4) hx hb hts hi2 hown hK hP 3 rfl rfl 0 (by decide) (hts (.fieldLink RX2 9 "PairedChannels$Word" "values" "[I") (List.mem_of_getElem? (i := 1) (by decide +kernel))) (fun _ h9 => h9) rfl dX2_copyFrom_1 ?_
  refine lv_iconst (v := 0) hx hb dX2_copyFrom_4 (by decide) ?_
  refine lv_aload_n hx hb dX2_copyFrom_5 rfl (lv_at hl 0 rfl) ?_
  refine va_get (D := D) (ci := 2) (v := .ref hv) (C := RX2) (T := TX2) (N := 4) hx hb hts hi2 hown hK hP 0 rfl rfl 0 (by decide) (hts (.fieldLink RX2 9 "PairedChannels$Word" "values" "[I") (List.mem_of_getElem? (i := 1) (by decide +kernel))) (fun _ h9 => h9) rfl dX2_copyFrom_6 ?_
  refine lv_iconst (v := 0) hx hb dX2_copyFrom_9 (by decide) ?_
  refine lv_bipush (v := 16) hx hb dX2_copyFrom_10 (by decide) ?_
  refine va_copyi (ty := .int) hx hb (hml.trans hl.1.symm) hown (hts (.methodLink RX2 22 arraycopyName) (List.mem_of_getElem? (i := 2) (by decide +kernel))) (hts (.native arraycopyName) (List.mem_of_getElem? (i := 3) (by decide +kernel))) (hts (.static arraycopyName) (List.mem_of_getElem? (i := 4) (by decide +kernel))) (hts (.initialized "java/lang/System") (List.mem_of_getElem? (i := 5) (by decide +kernel))) hK hP hD hS 4 1 0 0 rfl rfl rfl rfl rfl (by decide) (by decide) (by decide) (by decide) (by decide) (fun _ _ => rfl) (Nat.le_of_ble_eq_true rfl) (by decide) dX2_copyFrom_12 (fun H locs hP hD hS => ?_)
  have hP : va_P D vwCl [(h0, .inr (2, [.ref hv, .ref hs, .int (nI n), .int mask])), (hv, .inl (K 0, 16, .inl (va_cpy vf2 vf (0 : Int32).toNatClampNeg (0 : Int32).toNatClampNeg (16 : Int32).toNatClampNeg))), (hs, .inl (K 0, 4, .inl sf)), (g0, .inr (2, [.ref gv, .ref gs, .int (nI n2), .int mask2])), (gv, .inl (K 0, 16, .inl vf2)), (gs, .inl (K 0, 4, .inl sf2))] H := hP
  have hD : va_D A [(h0, .inr (2, [.ref hv, .ref hs, .int (nI n), .int mask])), (hv, .inl (K 0, 16, .inl (va_cpy vf2 vf (0 : Int32).toNatClampNeg (0 : Int32).toNatClampNeg (16 : Int32).toNatClampNeg))), (hs, .inl (K 0, 4, .inl sf)), (g0, .inr (2, [.ref gv, .ref gs, .int (nI n2), .int mask2])), (gv, .inl (K 0, 16, .inl vf2)), (gs, .inl (K 0, 4, .inl sf2))] := hD
  have hP : va_P D vwCl [(h0, .inr (2, [.ref hv, .ref hs, .int (nI n), .int mask])), (hv, .inl (K 0, 16, .inl vf2)), (hs, .inl (K 0, 4, .inl sf)), (g0, .inr (2, [.ref gv, .ref gs, .int (nI n2), .int mask2])), (gv, .inl (K 0, 16, .inl vf2)), (gs, .inl (K 0, 4, .inl sf2))] H := gP_ext hP 1 rfl (cpy_in 16 rfl)
  have hD : va_D A [(h0, .inr (2, [.ref hv, .ref hs, .int (nI n), .int mask])), (hv, .inl (K 0, 16, .inl vf2)), (hs, .inl (K 0, 4, .inl sf)), (g0, .inr (2, [.ref gv, .ref gs, .int (nI n2), .int mask2])), (gv, .inl (K 0, 16, .inl vf2)), (gs, .inl (K 0, 4, .inl sf2))] := gD_ext hD 1 rfl
  refine lv_aload_n hx hb dX2_copyFrom_15 rfl (lv_at hl 1 rfl) ?_
  refine va_get (D := D) (ci := 2) (v := .ref gs) (C := RX2) (T := TX2) (N := 4) hx hb hts hi2 hown hK hP 3 rfl rfl 1 (by decide) (hts (.fieldLink RX2 15 "PairedChannels$Word" "settings" "[I") (List.mem_of_getElem? (i := 6) (by decide +kernel))) (fun _ h9 => h9) rfl dX2_copyFrom_16 ?_
  refine lv_iconst (v := 0) hx hb dX2_copyFrom_19 (by decide) ?_
  refine lv_aload_n hx hb dX2_copyFrom_20 rfl (lv_at hl 0 rfl) ?_
  refine va_get (D := D) (ci := 2) (v := .ref hs) (C := RX2) (T := TX2) (N := 4) hx hb hts hi2 hown hK hP 0 rfl rfl 1 (by decide) (hts (.fieldLink RX2 15 "PairedChannels$Word" "settings" "[I") (List.mem_of_getElem? (i := 6) (by decide +kernel))) (fun _ h9 => h9) rfl dX2_copyFrom_21 ?_
  refine lv_iconst (v := 0) hx hb dX2_copyFrom_24 (by decide) ?_
  refine lv_iconst (v := 4) hx hb dX2_copyFrom_25 (by decide) ?_
  refine va_copyi (ty := .int) hx hb (hml.trans hl.1.symm) hown (hts (.methodLink RX2 22 arraycopyName) (List.mem_of_getElem? (i := 2) (by decide +kernel))) (hts (.native arraycopyName) (List.mem_of_getElem? (i := 3) (by decide +kernel))) (hts (.static arraycopyName) (List.mem_of_getElem? (i := 4) (by decide +kernel))) (hts (.initialized "java/lang/System") (List.mem_of_getElem? (i := 5) (by decide +kernel))) hK hP hD hS 5 2 0 0 rfl rfl rfl rfl rfl (by decide) (by decide) (by decide) (by decide) (by decide) (fun _ _ => rfl) (Nat.le_of_ble_eq_true rfl) (by decide) dX2_copyFrom_26 (fun H locs hP hD hS => ?_)
  have hP : va_P D vwCl [(h0, .inr (2, [.ref hv, .ref hs, .int (nI n), .int mask])), (hv, .inl (K 0, 16, .inl vf2)), (hs, .inl (K 0, 4, .inl (va_cpy sf2 sf (0 : Int32).toNatClampNeg (0 : Int32).toNatClampNeg (4 : Int32).toNatClampNeg))), (g0, .inr (2, [.ref gv, .ref gs, .int (nI n2), .int mask2])), (gv, .inl (K 0, 16, .inl vf2)), (gs, .inl (K 0, 4, .inl sf2))] H := hP
  have hD : va_D A [(h0, .inr (2, [.ref hv, .ref hs, .int (nI n), .int mask])), (hv, .inl (K 0, 16, .inl vf2)), (hs, .inl (K 0, 4, .inl (va_cpy sf2 sf (0 : Int32).toNatClampNeg (0 : Int32).toNatClampNeg (4 : Int32).toNatClampNeg))), (g0, .inr (2, [.ref gv, .ref gs, .int (nI n2), .int mask2])), (gv, .inl (K 0, 16, .inl vf2)), (gs, .inl (K 0, 4, .inl sf2))] := hD
  have hP : va_P D vwCl [(h0, .inr (2, [.ref hv, .ref hs, .int (nI n), .int mask])), (hv, .inl (K 0, 16, .inl vf2)), (hs, .inl (K 0, 4, .inl sf2)), (g0, .inr (2, [.ref gv, .ref gs, .int (nI n2), .int mask2])), (gv, .inl (K 0, 16, .inl vf2)), (gs, .inl (K 0, 4, .inl sf2))] H := gP_ext hP 2 rfl (cpy_in 4 rfl)
  have hD : va_D A [(h0, .inr (2, [.ref hv, .ref hs, .int (nI n), .int mask])), (hv, .inl (K 0, 16, .inl vf2)), (hs, .inl (K 0, 4, .inl sf2)), (g0, .inr (2, [.ref gv, .ref gs, .int (nI n2), .int mask2])), (gv, .inl (K 0, 16, .inl vf2)), (gs, .inl (K 0, 4, .inl sf2))] := gD_ext hD 2 rfl
  refine lv_aload_n hx hb dX2_copyFrom_29 rfl (lv_at hl 0 rfl) ?_
  refine lv_aload_n hx hb dX2_copyFrom_30 rfl (lv_at hl 1 rfl) ?_
  refine va_get (D := D) (ci := 2) (v := .int (nI n2)) (C := RX2) (T := TX2) (N := 4) hx hb hts hi2 hown hK hP 3 rfl rfl 2 (by decide) (hts (.fieldLink RX2 18 "PairedChannels$Word" "places" "I") (List.mem_of_getElem? (i := 7) (by decide +kernel))) (fun _ h9 => h9) rfl dX2_copyFrom_31 ?_
  refine va_put (D := D) (ci := 2) (v := .int (nI n2)) (ty := .int) (C := RX2) (T := TX2) (N := 4) hx hb hts hi2 tyX2 tyX2_ok nmX2 hown hK hP hD hS 0 rfl rfl 2 (by decide) (hts (.fieldLink RX2 18 "PairedChannels$Word" "places" "I") (List.mem_of_getElem? (i := 7) (by decide +kernel))) (fun _ h9 => h9) rfl (by decide +kernel) (rfl) (rfl) (Nat.le_of_ble_eq_true rfl) dX2_copyFrom_34 (fun H locs hP hD hS => ?_)
  have hP : va_P D vwCl [(h0, .inr (2, [.ref hv, .ref hs, .int (nI n2), .int mask])), (hv, .inl (K 0, 16, .inl vf2)), (hs, .inl (K 0, 4, .inl sf2)), (g0, .inr (2, [.ref gv, .ref gs, .int (nI n2), .int mask2])), (gv, .inl (K 0, 16, .inl vf2)), (gs, .inl (K 0, 4, .inl sf2))] H := hP
  have hD : va_D A [(h0, .inr (2, [.ref hv, .ref hs, .int (nI n2), .int mask])), (hv, .inl (K 0, 16, .inl vf2)), (hs, .inl (K 0, 4, .inl sf2)), (g0, .inr (2, [.ref gv, .ref gs, .int (nI n2), .int mask2])), (gv, .inl (K 0, 16, .inl vf2)), (gs, .inl (K 0, 4, .inl sf2))] := hD
  refine lv_aload_n hx hb dX2_copyFrom_37 rfl (lv_at hl 0 rfl) ?_
  refine lv_aload_n hx hb dX2_copyFrom_38 rfl (lv_at hl 1 rfl) ?_
  refine va_get (D := D) (ci := 2) (v := .int mask2) (C := RX2) (T := TX2) (N := 4) hx hb hts hi2 hown hK hP 3 rfl rfl 3 (by decide) (hts (.fieldLink RX2 28 "PairedChannels$Word" "openMask" "I") (List.mem_of_getElem? (i := 8) (by decide +kernel))) (fun _ h9 => h9) rfl dX2_copyFrom_39 ?_
  refine va_put (D := D) (ci := 2) (v := .int mask2) (ty := .int) (C := RX2) (T := TX2) (N := 4) hx hb hts hi2 tyX2 tyX2_ok nmX2 hown hK hP hD hS 0 rfl rfl 3 (by decide) (hts (.fieldLink RX2 28 "PairedChannels$Word" "openMask" "I") (List.mem_of_getElem? (i := 8) (by decide +kernel))) (fun _ h9 => h9) rfl (by decide +kernel) (rfl) (rfl) (Nat.le_of_ble_eq_true rfl) dX2_copyFrom_42 (fun H locs hP hD hS => ?_)
  have hP : va_P D vwCl [(h0, .inr (2, [.ref hv, .ref hs, .int (nI n2), .int mask2])), (hv, .inl (K 0, 16, .inl vf2)), (hs, .inl (K 0, 4, .inl sf2)), (g0, .inr (2, [.ref gv, .ref gs, .int (nI n2), .int mask2])), (gv, .inl (K 0, 16, .inl vf2)), (gs, .inl (K 0, 4, .inl sf2))] H := hP
  have hD : va_D A [(h0, .inr (2, [.ref hv, .ref hs, .int (nI n2), .int mask2])), (hv, .inl (K 0, 16, .inl vf2)), (hs, .inl (K 0, 4, .inl sf2)), (g0, .inr (2, [.ref gv, .ref gs, .int (nI n2), .int mask2])), (gv, .inl (K 0, 16, .inl vf2)), (gs, .inl (K 0, 4, .inl sf2))] := hD
  exact gW_vret () hx hb hr hlk hK hP hD hS (trivial) dX2_copyFrom_45
