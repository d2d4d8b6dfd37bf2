set_option maxHeartbeats 4000000 in
set_option maxRecDepth 100000 in
theorem c_J6_bitCount_0f7a4 (l : Launch) (D : va_G) (K : Nat → ClassId) (k : Nat) (hk : k < 65536) : MRi l yJ6_bitCount_0f7a4 wsJ6_bitCount_0f7a4 ({ frames := 0, cells := 0, slots := 0, locals := 0 } : Room) D (gTy K) [.int (nI k)] [] (fun r => r = nI (cntO (nI k) 16)) := by
  refine g_ofR (cc := cJ6_bitCount_0f7a4) (maxL := 1) (ret := (some .int)) (own := RJ6) (by decide) rfl rfl (Nat.le_of_ble_eq_true rfl) ?_
  intro pp ee s mm below meth cc hfx hK hP hE hS ls hl
  obtain ⟨hx, hb, hr, hml, hown, hts, hlk⟩ := hfx
  have hl : lv_has ls 1 [(0, .int (nI k))] := hl
  obtain ⟨hb1, hb2, hb3, hb4⟩ := bc_b hk
  refine lv_iload_n hx hb dJ6_bitCount_0f7a4_0 rfl (lv_at hl 0 rfl) ?_
  refine lv_iload_n hx hb dJ6_bitCount_0f7a4_1 rfl (lv_at hl 0 rfl) ?_
  refine lv_iconst (v := 1) hx hb dJ6_bitCount_0f7a4_2 (by decide) ?_
  refine lv_iushr hx hb dJ6_bitCount_0f7a4_3 rfl ?_
  refine lv_eqi (nI (k / 2 ^ 1)) (pk_ushrN (n := k) (by omega) 1 1 (by decide)) ?_
  refine lv_ldcw hx hb hown (hts (.constant RJ6 265 (1431655765)) (List.mem_of_getElem? (i := 1) (by decide +kernel))) dJ6_bitCount_0f7a4_4 ?_
  refine lv_iand hx hb dJ6_bitCount_0f7a4_7 ?_
  refine lv_eqi (nI (k / 2 ^ 1 &&& 1431655765)) (nI_and _ _) ?_
  refine lv_isub hx hb dJ6_bitCount_0f7a4_8 ?_
  refine lv_eqi (nI (bc1 k)) (pk_sub (bc_s1 k)) ?_
  refine lv_istore_n (lv' := [(0, .int (nI (bc1 k)))]) hx hb dJ6_bitCount_0f7a4_9 rfl hl (by decide) rfl (fun ls hl => ?_)
  refine lv_iload_n hx hb dJ6_bitCount_0f7a4_10 rfl (lv_at hl 0 rfl) ?_
  refine lv_ldcw hx hb hown (hts (.constant RJ6 266 (858993459)) (List.mem_of_getElem? (i := 2) (by decide +kernel))) dJ6_bitCount_0f7a4_11 ?_
  refine lv_iand hx hb dJ6_bitCount_0f7a4_14 ?_
  refine lv_eqi (nI (bc1 k &&& 858993459)) (nI_and _ _) ?_
  refine lv_iload_n hx hb dJ6_bitCount_0f7a4_15 rfl (lv_at hl 0 rfl) ?_
  refine lv_iconst (v := 2) hx hb dJ6_bitCount_0f7a4_16 (by decide) ?_
  refine lv_iushr hx hb dJ6_bitCount_0f7a4_17 rfl ?_
  refine lv_eqi (nI (bc1 k / 2 ^ 2)) (pk_ushrN (n := bc1 k) (by omega) 2 2 (by decide)) ?_
  refine lv_ldcw hx hb hown (hts (.constant RJ6 266 (858993459)) (List.mem_of_getElem? (i := 2) (by decide +kernel))) dJ6_bitCount_0f7a4_18 ?_
  refine lv_iand hx hb dJ6_bitCount_0f7a4_21 ?_
  refine lv_eqi (nI (bc1 k / 2 ^ 2 &&& 858993459)) (nI_and _ _) ?_
  refine lv_iadd hx hb dJ6_bitCount_0f7a4_22 ?_
  refine lv_eqi (nI ((bc1 k &&& 858993459) + (bc1 k / 2 ^ 2 &&& 858993459))) ((nI_add (bc1 k &&& 858993459) (bc1 k / 2 ^ 2 &&& 858993459)).trans (congrArg nI (by omega))) ?_
  refine lv_eqi (nI (bc2 (bc1 k))) (rfl) ?_
  refine lv_istore_n (lv' := [(0, .int (nI (bc2 (bc1 k))))]) hx hb dJ6_bitCount_0f7a4_23 rfl hl (by decide) rfl (fun ls hl => ?_)
  refine lv_iload_n hx hb dJ6_bitCount_0f7a4_24 rfl (lv_at hl 0 rfl) ?_
  refine lv_iload_n hx hb dJ6_bitCount_0f7a4_25 rfl (lv_at hl 0 rfl) ?_
  refine lv_iconst (v := 4) hx hb dJ6_bitCount_0f7a4_26 (by decide) ?_
  refine lv_iushr hx hb dJ6_bitCount_0f7a4_27 rfl ?_
  refine lv_eqi (nI (bc2 (bc1 k) / 2 ^ 4)) (pk_ushrN (n := bc2 (bc1 k)) (by omega) 4 4 (by decide)) ?_
  refine lv_iadd hx hb dJ6_bitCount_0f7a4_28 ?_
  refine lv_eqi (nI (bc2 (bc1 k) + (bc2 (bc1 k) / 2 ^ 4))) ((nI_add (bc2 (bc1 k)) (bc2 (bc1 k) / 2 ^ 4)).trans (congrArg nI (by omega))) ?_
  refine lv_ldcw hx hb hown (hts (.constant RJ6 267 (252645135)) (List.mem_of_getElem? (i := 3) (by decide +kernel))) dJ6_bitCount_0f7a4_29 ?_
  refine lv_iand hx hb dJ6_bitCount_0f7a4_32 ?_
  refine lv_eqi (nI (bc3 (bc2 (bc1 k)))) (nI_and _ _) ?_
  refine lv_istore_n (lv' := [(0, .int (nI (bc3 (bc2 (bc1 k)))))]) hx hb dJ6_bitCount_0f7a4_33 rfl hl (by decide) rfl (fun ls hl => ?_)
  refine lv_iload_n hx hb dJ6_bitCount_0f7a4_34 rfl (lv_at hl 0 rfl) ?_
  refine lv_iload_n hx hb dJ6_bitCount_0f7a4_35 rfl (lv_at hl 0 rfl) ?_
  refine lv_bipush (v := 8) hx hb dJ6_bitCount_0f7a4_36 (by decide) ?_
  refine lv_iushr hx hb dJ6_bitCount_0f7a4_38 rfl ?_
  refine lv_eqi (nI (bc3 (bc2 (bc1 k)) / 2 ^ 8)) (pk_ushrN (n := bc3 (bc2 (bc1 k))) (by omega) 8 8 (by decide)) ?_
  refine lv_iadd hx hb dJ6_bitCount_0f7a4_39 ?_
  refine lv_eqi (nI (bc3 (bc2 (bc1 k)) + (bc3 (bc2 (bc1 k)) / 2 ^ 8))) ((nI_add (bc3 (bc2 (bc1 k))) (bc3 (bc2 (bc1 k)) / 2 ^ 8)).trans (congrArg nI (by omega))) ?_
  refine lv_eqi (nI (bc4 (bc3 (bc2 (bc1 k))))) (rfl) ?_
  refine lv_istore_n (lv' := [(0, .int (nI (bc4 (bc3 (bc2 (bc1 k))))))]) hx hb dJ6_bitCount_0f7a4_40 rfl hl (by decide) rfl (fun ls hl => ?_)
  refine lv_iload_n hx hb dJ6_bitCount_0f7a4_41 rfl (lv_at hl 0 rfl) ?_
  refine lv_iload_n hx hb dJ6_bitCount_0f7a4_42 rfl (lv_at hl 0 rfl) ?_
  refine lv_bipush (v := 16) hx hb dJ6_bitCount_0f7a4_43 (by decide) ?_
  refine lv_iushr hx hb dJ6_bitCount_0f7a4_45 rfl ?_
  refine lv_eqi (nI (bc4 (bc3 (bc2 (bc1 k))) / 2 ^ 16)) (pk_ushrN (n := bc4 (bc3 (bc2 (bc1 k)))) (by omega) 16 16 (by decide)) ?_
  refine lv_iadd hx hb dJ6_bitCount_0f7a4_46 ?_
  refine lv_eqi (nI (bc4 (bc3 (bc2 (bc1 k))) + (bc4 (bc3 (bc2 (bc1 k))) / 2 ^ 16))) ((nI_add (bc4 (bc3 (bc2 (bc1 k)))) (bc4 (bc3 (bc2 (bc1 k))) / 2 ^ 16)).trans (congrArg nI (by omega))) ?_
  refine lv_eqi (nI (bc5 (bc4 (bc3 (bc2 (bc1 k)))))) (rfl) ?_
  refine lv_istore_n (lv' := [(0, .int (nI (bc5 (bc4 (bc3 (bc2 (bc1 k)))))))]) hx hb dJ6_bitCount_0f7a4_47 rfl hl (by decide) rfl (fun ls hl => ?_)
  refine lv_iload_n hx hb dJ6_bitCount_0f7a4_48 rfl (lv_at hl 0 rfl) ?_
  refine lv_bipush (v := 63) hx hb dJ6_bitCount_0f7a4_49 (by decide) ?_
  refine lv_iand hx hb dJ6_bitCount_0f7a4_51 ?_
  refine lv_eqi (nI (bcN k)) (nI_and _ _) ?_
  exact gR_iret (v := nI (bcN k)) hx hb hr hlk (rfl) hS (congrArg nI (bc_ok hk)) dJ6_bitCount_0f7a4_52

set_option maxHeartbeats 4000000 in
set_option maxRecDepth 100000 in
theorem c_X3_coded (l : Launch) (D : va_G) (K : Nat → ClassId) (x : Int32) (n : Nat) (hn1 : okN1 n) : MRi l yX3_coded wsX3_coded ({ frames := 0, cells := 0, slots := 0, locals := 0 } : Room) D (gTy K) [.int x, .int (nI n)] [] (fun r => r = cod x n) := by
  refine g_ofR (cc := cX3_coded) (maxL := 4) (ret := (some .int)) (own := RX3) (by decide) rfl rfl (Nat.le_of_ble_eq_true rfl) ?_
  intro pp ee s mm below meth cc hfx hK hP hE hS ls hl
  obtain ⟨hx, hb, hr, hml, hown, hts, hlk⟩ := hfx
  have hl : lv_has ls 4 [(0, .int x), (1, .int (nI n))] := hl
  have hlg := lg_le hn1
  have hnl := hn1.le
  refine lv_iload_n hx hb dX3_coded_0 rfl (lv_at hl 0 rfl) ?_
  refine lv_iconst (v := 1) hx hb dX3_coded_1 (by decide) ?_
  refine lv_iload_n hx hb dX3_coded_2 rfl (lv_at hl 1 rfl) ?_
  refine lv_ishl hx hb dX3_coded_3 ?_
  refine lv_iconst (v := 1) hx hb dX3_coded_4 (by decide) ?_
  refine lv_isub hx hb dX3_coded_5 ?_
  refine lv_iand hx hb dX3_coded_6 ?_
  refine lv_istore_n (lv' := [(2, .int (x &&& ((1 <<< ((nI n) &&& 31)) - 1))), (0, .int x), (1, .int (nI n))]) hx hb dX3_coded_7 rfl hl (by decide) rfl (fun ls hl => ?_)
  refine lv_iconst (v := 0) hx hb dX3_coded_8 (by decide) ?_
  refine lv_istore_n (lv' := [(3, .int 0), (2, .int (x &&& ((1 <<< ((nI n) &&& 31)) - 1))), (0, .int x), (1, .int (nI n))]) hx hb dX3_coded_9 rfl hl (by decide) rfl (fun ls hl => ?_)
  refine g_loopW (st := []) (N := lg n) (fun i H locs ls => va_P D vwCl [] H ∧ va_S gNo s.heap H locs ∧ lv_has ls 4 [(3, .int (nI i)), (2, .int (codS (x &&& ((1 <<< (nI n &&& 31)) - 1)) i)), (0, .int x), (1, .int (nI n))]) 0 (Nat.zero_le _) ?_ ?_ ?_
  · intro H locs ls hI
    obtain ⟨hP, hS, hl⟩ := hI
    have hp9 := pw_le hlg
    refine lv_iload_n hx hb dX3_coded_10 rfl (lv_at hl 0 rfl) ?_
    refine wa_tab hx hb hE hS g_tabF hown (hts (.fieldLink RX3 288 "PairedChannels" "FORMER_PLACES" "[I") (List.mem_of_getElem? (i := 1) (by decide +kernel))) dX3_coded_11 (fun t2 hTt2 => ?_)
    refine va_tlen (v := 4) hx hb hTt2 hS (by decide) dX3_coded_14 ?_
    refine lv_icmp_ge (tgt := 45) hx hb dX3_coded_15 (by decide) (fun c3 => ?_) (fun c3 => ?_)
    · skip
      have c3 : 4 ≤ (lg n) := (nI_leI (a := 4) (b := (lg n)) (by omega) (by omega)).mp c3
      refine lv_iload_n hx hb dX3_coded_45 rfl (lv_at hl 1 rfl) ?_
      exact gR_iret (v := codS (x &&& ((1 <<< (nI n &&& 31)) - 1)) (lg n)) hx hb hr hlk (rfl) hS (rfl) dX3_coded_46
    · skip
      have c3 : ¬ 4 ≤ (lg n) := fun h9 => c3 ((nI_leI (a := 4) (b := (lg n)) (by omega) (by omega)).mpr h9)
      refine lv_iconst (v := 1) hx hb dX3_coded_18 (by decide) ?_
      refine lv_iload_n hx hb dX3_coded_19 rfl (lv_at hl 0 rfl) ?_
      refine lv_ishl hx hb dX3_coded_20 ?_
      refine lv_eqi (nI (2 ^ (lg n))) (pow_l _ (by omega)) ?_
      refine lv_iload_n hx hb dX3_coded_21 rfl (lv_at hl 3 rfl) ?_
      refine lv_icmp_ge (tgt := 45) hx hb dX3_coded_22 (by decide) (fun c => ?_) (fun c => ?_)
      · skip
        have c : n ≤ 2 ^ (lg n) := (nI_leI (a := n) (b := 2 ^ (lg n)) (by omega) (by omega)).mp c
        refine lv_iload_n hx hb dX3_coded_45 rfl (lv_at hl 1 rfl) ?_
        exact gR_iret (v := codS (x &&& ((1 <<< (nI n &&& 31)) - 1)) (lg n)) hx hb hr hlk (rfl) hS (rfl) dX3_coded_46
      · skip
        have c : ¬ n ≤ 2 ^ (lg n) := fun h9 => c ((nI_leI (a := n) (b := 2 ^ (lg n)) (by omega) (by omega)).mpr h9)
        exact absurd (Nat.le_of_eq (lg_pow hn1)) c
  · intro i hi ih1 H locs ls hI
    obtain ⟨hP, hS, hl⟩ := hI
    have hpi : 2 ^ i < n := by rw [lg_pow hn1]; exact Nat.pow_lt_pow_right (by decide) hi
    refine lv_iload_n hx hb dX3_coded_10 rfl (lv_at hl 0 rfl) ?_
    refine wa_tab hx hb hE hS g_tabF hown (hts (.fieldLink RX3 288 "PairedChannels" "FORMER_PLACES" "[I") (List.mem_of_getElem? (i := 1) (by decide +kernel))) dX3_coded_11 (fun t5 hTt5 => ?_)
    refine va_tlen (v := 4) hx hb hTt5 hS (by decide) dX3_coded_14 ?_
    refine lv_icmp_ge (tgt := 45) hx hb dX3_coded_15 (by decide) (fun c6 => ?_) (fun c6 => ?_)
    · skip
      have c6 : 4 ≤ i := (nI_leI (a := 4) (b := i) (by omega) (by omega)).mp c6
      omega
    · skip
      have c6 : ¬ 4 ≤ i := fun h9 => c6 ((nI_leI (a := 4) (b := i) (by omega) (by omega)).mpr h9)
      refine lv_iconst (v := 1) hx hb dX3_coded_18 (by decide) ?_
      refine lv_iload_n hx hb dX3_coded_19 rfl (lv_at hl 0 rfl) ?_
      refine lv_ishl hx hb dX3_coded_20 ?_
      refine lv_eqi (nI (2 ^ i)) (pow_l _ (by omega)) ?_
      refine lv_iload_n hx hb dX3_coded_21 rfl (lv_at hl 3 rfl) ?_
      refine lv_icmp_ge (tgt := 45) hx hb dX3_coded_22 (by decide) (fun c => ?_) (fun c => ?_)
      · skip
        have c : n ≤ 2 ^ i := (nI_leI (a := n) (b := 2 ^ i) (by omega) (by omega)).mp c
        omega
      · skip
        have c : ¬ n ≤ 2 ^ i := fun h9 => c ((nI_leI (a := n) (b := 2 ^ i) (by omega) (by omega)).mpr h9)
        refine lv_iload_n hx hb dX3_coded_25 rfl (lv_at hl 1 rfl) ?_
        refine lv_iload_n hx hb dX3_coded_26 rfl (lv_at hl 1 rfl) ?_
        refine lv_iconst (v := 1) hx hb dX3_coded_27 (by decide) ?_
        refine lv_iload_n hx hb dX3_coded_28 rfl (lv_at hl 0 rfl) ?_
        refine lv_ishl hx hb dX3_coded_29 ?_
        refine lv_ishr hx hb dX3_coded_30 ?_
        refine wa_tab hx hb hE hS g_tabF hown (hts (.fieldLink RX3 288 "PairedChannels" "FORMER_PLACES" "[I") (List.mem_of_getElem? (i := 1) (by decide +kernel))) dX3_coded_31 (fun t8 hTt8 => ?_)
        refine lv_iload_n hx hb dX3_coded_34 rfl (lv_at hl 0 rfl) ?_
        refine wa_tald hx hb hTt8 hS (i) rfl (by omega) dX3_coded_35 ?_
        refine lv_iand hx hb dX3_coded_36 ?_
        refine lv_ixor hx hb dX3_coded_37 ?_
        refine lv_istore_n (lv' := [(2, .int (codS (x &&& ((1 <<< (nI n &&& 31)) - 1)) i ^^^ (((codS (x &&& ((1 <<< (nI n &&& 31)) - 1)) i) >>> ((1 <<< ((nI i) &&& 31)) &&& 31)) &&& tF i))), (3, .int (nI i)), (0, .int x), (1, .int (nI n))]) hx hb dX3_coded_38 rfl hl (by decide) rfl (fun ls hl => ?_)
        refine lv_iinc (v := nI (i + 1)) (lv' := [(3, .int (nI (i + 1))), (2, .int (codS (x &&& ((1 <<< (nI n &&& 31)) - 1)) i ^^^ (((codS (x &&& ((1 <<< (nI n &&& 31)) - 1)) i) >>> ((1 <<< ((nI i) &&& 31)) &&& 31)) &&& tF i))), (0, .int x), (1, .int (nI n))]) hx hb dX3_coded_39 hl (k := 1) rfl (nI_add i 1) (by decide) rfl (fun ls hl => ?_)
        refine lv_goto (tgt := 10) hx hb dX3_coded_42 (by decide) ?_
        have e9 : (codS (x &&& ((1 <<< (nI n &&& 31)) - 1)) i ^^^ (((codS (x &&& ((1 <<< (nI n &&& 31)) - 1)) i) >>> ((1 <<< ((nI i) &&& 31)) &&& 31)) &&& tF i)) = (codS (x &&& ((1 <<< (nI n &&& 31)) - 1)) (i + 1)) := rfl
        rw [e9] at hl
        exact ih1 H locs ls ⟨hP, hS, lv_sub hl [0, 1, 2, 3] rfl⟩
  · exact ⟨hP, hS, lv_sub hl [0, 1, 2, 3] rfl⟩

set_option maxHeartbeats 4000000 in
set_option maxRecDepth 100000 in
theorem c_X3_checkNumber (l : Launch) (D : va_G) (K : Nat → ClassId) (x : Int32) (bd : Nat) (ck : Nat) (hbd : bd ≤ 16) : MRi l yX3_checkNumber wsX3_checkNumber ({ frames := 0, cells := 0, slots := 0, locals := 0 } : Room) D (gTy K) [.int x, .int (nI bd), .int (nI ck)] [] (fun r => r = chk x bd ck) := by
  refine g_ofR (cc := cX3_checkNumber) (maxL := 5) (ret := (some .int)) (own := RX3) (by decide) rfl rfl (Nat.le_of_ble_eq_true rfl) ?_
  intro pp ee s mm below meth cc hfx hK hP hE hS ls hl
  obtain ⟨hx, hb, hr, hml, hown, hts, hlk⟩ := hfx
  have hl : lv_has ls 5 [(0, .int x), (1, .int (nI bd)), (2, .int (nI ck))] := hl
  refine lv_iconst (v := 0) hx hb dX3_checkNumber_0 (by decide) ?_
  refine lv_istore_n (lv' := [(3, .int 0), (0, .int x), (1, .int (nI bd)), (2, .int (nI ck))]) hx hb dX3_checkNumber_1 rfl hl (by decide) rfl (fun ls hl => ?_)
  refine lv_iconst (v := 0) hx hb dX3_checkNumber_2 (by decide) ?_
  refine lv_istore (lv' := [(4, .int 0), (3, .int 0), (0, .int x), (1, .int (nI bd)), (2, .int (nI ck))]) hx hb dX3_checkNumber_3 hl (by decide) rfl (fun ls hl => ?_)
  refine g_loopW (st := []) (N := bd) (fun i H locs ls => va_P D vwCl [] H ∧ va_S gNo s.heap H locs ∧ lv_has ls 5 [(4, .int (nI i)), (3, .int (sumC x i)), (0, .int x), (1, .int (nI bd)), (2, .int (nI ck))]) 0 (Nat.zero_le _) ?_ ?_ ?_
  · intro H locs ls hI
    obtain ⟨hP, hS, hl⟩ := hI
    refine lv_iload hx hb dX3_checkNumber_5 (lv_at hl 0 rfl) ?_
    refine lv_iload_n hx hb dX3_checkNumber_7 rfl (lv_at hl 3 rfl) ?_
    refine lv_icmp_ge (tgt := 31) hx hb dX3_checkNumber_8 (by decide) (fun c2 => ?_) (fun c2 => ?_)
    · skip
      have c2 : bd ≤ bd := (nI_leI (a := bd) (b := bd) (by omega) (by omega)).mp c2
      refine lv_iload_n hx hb dX3_checkNumber_31 rfl (lv_at hl 1 rfl) ?_
      refine lv_iconst (v := 1) hx hb dX3_checkNumber_32 (by decide) ?_
      refine lv_iload_n hx hb dX3_checkNumber_33 rfl (lv_at hl 4 rfl) ?_
      refine lv_ishl hx hb dX3_checkNumber_34 ?_
      refine lv_iconst (v := 1) hx hb dX3_checkNumber_35 (by decide) ?_
      refine lv_isub hx hb dX3_checkNumber_36 ?_
      refine lv_iand hx hb dX3_checkNumber_37 ?_
      exact gR_iret (v := (sumC x bd &&& ((1 <<< ((nI ck) &&& 31)) - 1))) hx hb hr hlk (rfl) hS (rfl) dX3_checkNumber_38
    · skip
      have c2 : ¬ bd ≤ bd := fun h9 => c2 ((nI_leI (a := bd) (b := bd) (by omega) (by omega)).mpr h9)
      omega
  · intro i hi ih1 H locs ls hI
    obtain ⟨hP, hS, hl⟩ := hI
    refine lv_iload hx hb dX3_checkNumber_5 (lv_at hl 0 rfl) ?_
    refine lv_iload_n hx hb dX3_checkNumber_7 rfl (lv_at hl 3 rfl) ?_
    refine lv_icmp_ge (tgt := 31) hx hb dX3_checkNumber_8 (by decide) (fun c3 => ?_) (fun c3 => ?_)
    · skip
      have c3 : bd ≤ i := (nI_leI (a := bd) (b := i) (by omega) (by omega)).mp c3
      omega
    · skip
      have c3 : ¬ bd ≤ i := fun h9 => c3 ((nI_leI (a := bd) (b := i) (by omega) (by omega)).mpr h9)
      refine lv_iload_n hx hb dX3_checkNumber_11 rfl (lv_at hl 1 rfl) ?_
      refine lv_iload_n hx hb dX3_checkNumber_12 rfl (lv_at hl 2 rfl) ?_
      refine lv_iload hx hb dX3_checkNumber_13 (lv_at hl 0 rfl) ?_
      refine lv_ishr hx hb dX3_checkNumber_15 ?_
      refine lv_iconst (v := 1) hx hb dX3_checkNumber_16 (by decide) ?_
      refine lv_iand hx hb dX3_checkNumber_17 ?_
      refine lv_eqi (bitI x i) rfl ?_
      refine lv_iload hx hb dX3_checkNumber_18 (lv_at hl 0 rfl) ?_
      refine lv_iconst (v := 1) hx hb dX3_checkNumber_20 (by decide) ?_
      refine lv_iadd hx hb dX3_checkNumber_21 ?_
      refine lv_eqi (nI (i + 1)) (nI_add i 1) ?_
      refine lv_imul hx hb dX3_checkNumber_22 ?_
      refine lv_iadd hx hb dX3_checkNumber_23 ?_
      refine lv_istore_n (lv' := [(3, .int (sumC x i + (bitI x i * nI (i + 1)))), (4, .int (nI i)), (0, .int x), (1, .int (nI bd)), (2, .int (nI ck))]) hx hb dX3_checkNumber_24 rfl hl (by decide) rfl (fun ls hl => ?_)
      refine lv_iinc (v := nI (i + 1)) (lv' := [(4, .int (nI (i + 1))), (3, .int (sumC x i + (bitI x i * nI (i + 1)))), (0, .int x), (1, .int (nI bd)), (2, .int (nI ck))]) hx hb dX3_checkNumber_25 hl (k := 1) rfl (nI_add i 1) (by decide) rfl (fun ls hl => ?_)
      refine lv_goto (tgt := 5) hx hb dX3_checkNumber_28 (by decide) ?_
      have e9 : (sumC x i + (bitI x i * nI (i + 1))) = (sumC x (i + 1)) := rfl
      rw [e9] at hl
      exact ih1 H locs ls ⟨hP, hS, lv_sub hl [0, 1, 2, 3, 4] rfl⟩
  · exact ⟨hP, hS, lv_sub hl [0, 1, 2, 3, 4] rfl⟩

set_option maxHeartbeats 4000000 in
set_option maxRecDepth 100000 in
theorem c_X2_isOpen (l : Launch) (D : va_G) (K : Nat → ClassId) (h0 : Nat) (hv : Nat) (hs : Nat) (n : Nat) (mask : Int32) (pl : Nat)  : MRi l yX2_isOpen wsX2_isOpen ({ frames := 0, cells := 0, slots := 0, locals := 0 } : Room) D (gTy K) [.ref h0, .int (nI pl)] [(h0, .inr (2, [.ref hv, .ref hs, .int (nI n), .int mask]))] (fun r => r = (if opn mask pl then 1 else 0)) := by
  refine g_ofR (cc := cX2_isOpen) (maxL := 2) (ret := (some .boolean)) (own := RX2) (by decide) rfl rfl (Nat.le_of_ble_eq_true rfl) ?_
  intro pp ee s mm below meth cc hfx hK hP hE hS ls hl
  obtain ⟨hx, hb, hr, hml, hown, hts, hlk⟩ := hfx
  have hl : lv_has ls 2 [(0, .ref h0), (1, .int (nI pl))] := hl
  have hi2 : ∀ w ∈ u_ws RX2 TX2 4, w ∈ wsX2_isOpen := fun w h => List.mem_cons_of_mem _ (List.mem_append_right _ (h))
  refine lv_aload_n hx hb dX2_isOpen_0 rfl (lv_at hl 0 rfl) ?_
  refine va_get (D := D) (ci := 2) (v := .int mask) (C := RX2) (T := TX2) (N := 4) hx hb hts hi2 hown hK hP 0 rfl rfl 3 (by decide) (hts (.fieldLink RX2 28 "PairedChannels$Word" "openMask" "I") (List.mem_of_getElem? (i := 1) (by decide +kernel))) (fun _ h9 => h9) rfl dX2_isOpen_1 ?_
  refine lv_iload_n hx hb dX2_isOpen_4 rfl (lv_at hl 1 rfl) ?_
  refine lv_ishr hx hb dX2_isOpen_5 ?_
  refine lv_iconst (v := 1) hx hb dX2_isOpen_6 (by decide) ?_
  refine lv_iand hx hb dX2_isOpen_7 ?_
  refine lv_eqi (bitI mask pl) rfl ?_
  refine lv_iconst (v := 1) hx hb dX2_isOpen_8 (by decide) ?_
  refine g_cut (F0 mm 17 ls [.int (if bitI mask pl = 1 then 1 else 0)]) (fun hJ => ?_) ?_
  · refine lv_icmp_ne (tgt := 16) hx hb dX2_isOpen_9 (by decide) (fun c1 => ?_) (fun c1 => ?_)
    · skip
      refine lv_iconst (v := 0) hx hb dX2_isOpen_16 (by decide) ?_
      refine lv_eqi ((if bitI mask pl = 1 then 1 else 0)) (if_neg c1).symm ?_
      exact hJ
    · skip
      refine lv_iconst (v := 1) hx hb dX2_isOpen_12 (by decide) ?_
      refine lv_goto (tgt := 17) hx hb dX2_isOpen_13 (by decide) ?_
      refine lv_eqi ((if bitI mask pl = 1 then 1 else 0)) (if_pos c1).symm ?_
      exact hJ
  · skip
    exact gR_iret (v := (if bitI mask pl = 1 then 1 else 0)) hx hb hr hlk (nar_b _) hS (rfl) dX2_isOpen_17

set_option maxHeartbeats 4000000 in
set_option maxRecDepth 100000 in
theorem c_X2_hasPlace (l : Launch) (D : va_G) (K : Nat → ClassId) (h0 : Nat) (hv : Nat) (hs : Nat) (n : Nat) (mask : Int32) (q : Int32)  : MRi l yX2_hasPlace wsX2_hasPlace ({ frames := 0, cells := 0, slots := 0, locals := 0 } : Room) D (gTy K) [.ref h0, .int q] [(h0, .inr (2, [.ref hv, .ref hs, .int (nI n), .int mask]))] (fun r => r = (if 0 ≤ q ∧ q < nI n then 1 else 0)) := by
  refine g_ofR (cc := cX2_hasPlace) (maxL := 2) (ret := (some .boolean)) (own := RX2) (by decide) rfl rfl (Nat.le_of_ble_eq_true rfl) ?_
  intro pp ee s mm below meth cc hfx hK hP hE hS ls hl
  obtain ⟨hx, hb, hr, hml, hown, hts, hlk⟩ := hfx
  have hl : lv_has ls 2 [(0, .ref h0), (1, .int q)] := hl
  have hi2 : ∀ w ∈ u_ws RX2 TX2 4, w ∈ wsX2_hasPlace := fun w h => List.mem_cons_of_mem _ (List.mem_append_right _ (h))
  refine lv_iload_n hx hb dX2_hasPlace_0 rfl (lv_at hl 1 rfl) ?_
  refine lv_if_lt (tgt := 16) hx hb dX2_hasPlace_1 (by decide) (fun c1 => ?_) (fun c1 => ?_)
  · skip
    refine lv_iconst (v := 0) hx hb dX2_hasPlace_16 (by decide) ?_
    exact gR_iret (v := 0) hx hb hr hlk (rfl) hS (by first | exact in_t c1 c2 | exact in_f1 c1 | exact in_f2 c2) dX2_hasPlace_17
  · skip
    refine lv_iload_n hx hb dX2_hasPlace_4 rfl (lv_at hl 1 rfl) ?_
    refine lv_aload_n hx hb dX2_hasPlace_5 rfl (lv_at hl 0 rfl) ?_
    refine va_get (D := D) (ci := 2) (v := .int (nI n)) (C := RX2) (T := TX2) (N := 4) hx hb hts hi2 hown hK hP 0 rfl rfl 2 (by decide) (hts (.fieldLink RX2 18 "PairedChannels$Word" "places" "I") (List.mem_of_getElem? (i := 1) (by decide +kernel))) (fun _ h9 => h9) rfl dX2_hasPlace_6 ?_
    refine lv_icmp_ge (tgt := 16) hx hb dX2_hasPlace_9 (by decide) (fun c2 => ?_) (fun c2 => ?_)
    · skip
      refine lv_iconst (v := 0) hx hb dX2_hasPlace_16 (by decide) ?_
      exact gR_iret (v := 0) hx hb hr hlk (rfl) hS (by first | exact in_t c1 c2 | exact in_f1 c1 | exact in_f2 c2) dX2_hasPlace_17
    · skip
      refine lv_iconst (v := 1) hx hb dX2_hasPlace_12 (by decide) ?_
      refine lv_goto (tgt := 17) hx hb dX2_hasPlace_13 (by decide) ?_
      exact gR_iret (v := 1) hx hb hr hlk (rfl) hS (by first | exact in_t c1 c2 | exact in_f1 c1 | exact in_f2 c2) dX2_hasPlace_17
