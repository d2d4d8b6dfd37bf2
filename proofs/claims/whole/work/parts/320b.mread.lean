set_option maxHeartbeats 4000000 in
set_option maxRecDepth 100000 in
theorem c_X4_hears (l : Launch) (D : va_G) (K : Nat → ClassId) (m0 : Nat) (m1 : Nat) (m2 : Nat) (m3 : Nat) (m4 : Nat) (m5 : Nat) (m6 : Nat) (m7 : Nat) (m8 : Nat) (m9 : Nat) (m10 : Nat) (th : Int32) (sy : Nat) (ly : Nat) (py : Nat) (ay : Nat) (iw : Bool) (ty : Nat) (hy : Int64) (n : Nat) (mask : Int32) (vf : Nat → Int32) (sf : Nat → Int32) (b : Int32) (pl : Nat) (fw : Nat → Int32) (hn : okN n) (hp : pl < n) : MWi l yX4_hears wsX4_hears ({ frames := 2, cells := 0, slots := 0, locals := 45 } : Room) D (gTy K) [.ref m0, .int b, .int (nI pl)] [(m0, .inr (4, [.int th, .ref m1, .ref m2, .ref m3, .int (nI sy), .ref m4, .int (nI ly), .ref m5, .ref m6, .int (nI py), .ref m7, .ref m8, .ref m9, .int (nI ay), .int (if iw = true then 1 else 0), .ref m10, .int (nI ty), .long hy])), (m1, .inl (K 0, 22, .inl (mst n mask vf sf))), (m9, .inl (K 0, 16, .inl fw))] (fun (u : Nat → Int32) => [(m0, .inr (4, [.int th, .ref m1, .ref m2, .ref m3, .int (nI sy), .ref m4, .int (nI ly), .ref m5, .ref m6, .int (nI py), .ref m7, .ref m8, .ref m9, .int (nI ay), .int (if iw = true then 1 else 0), .ref m10, .int (nI ty), .long hy])), (m1, .inl (K 0, 22, .inl (mst n mask vf sf))), (m9, .inl (K 0, 16, .inl u))]) (fun r (u : Nat → Int32) => r = hea n vf pl b) 0 0 := by
  refine g_ofW (Qc := fun A => va_Qi _ (gB D (gTy K) A _) A) (cc := cX4_hears) (maxL := 6) (ret := (some .int)) (own := RX4) (by decide) rfl rfl (Nat.le_of_ble_eq_true rfl) ?_
  intro pp ee s mm below meth cc A hfx hnm hK hP hD hE hS hA ls hl
  obtain ⟨hx, hb, hr, hml, hown, hts, hlk⟩ := hfx
  have hl : lv_has ls 6 [(0, .ref m0), (1, .int b), (2, .int (nI pl))] := hl
  have hi4 : ∀ w ∈ u_ws RX4 TX4 18, w ∈ wsX4_hears := fun w h => List.mem_cons_of_mem _ (List.mem_append_right _ (h))
  have hnl := hn.le
  refine lv_iconst (v := 0) hx hb dX4_hears_0 (by decide) ?_
  refine lv_istore_n (lv' := [(3, .int 0), (0, .ref m0), (1, .int b), (2, .int (nI pl))]) hx hb dX4_hears_1 rfl hl (by decide) rfl (fun ls hl => ?_)
  refine g_loopW (st := []) (N := n) (fun t H locs ls => ∃ fw : Nat → Int32, (∀ q, q < t → fw q = vf q) ∧ va_P D vwCl [(m0, .inr (4, [.int th, .ref m1, .ref m2, .ref m3, .int (nI sy), .ref m4, .int (nI ly), .ref m5, .ref m6, .int (nI py), .ref m7, .ref m8, .ref m9, .int (nI ay), .int (if iw = true then 1 else 0), .ref m10, .int (nI ty), .long hy])), (m1, .inl (K 0, 22, .inl (mst n mask vf sf))), (m9, .inl (K 0, 16, .inl fw))] H ∧ va_D A [(m0, .inr (4, [.int th, .ref m1, .ref m2, .ref m3, .int (nI sy), .ref m4, .int (nI ly), .ref m5, .ref m6, .int (nI py), .ref m7, .ref m8, .ref m9, .int (nI ay), .int (if iw = true then 1 else 0), .ref m10, .int (nI ty), .long hy])), (m1, .inl (K 0, 22, .inl (mst n mask vf sf))), (m9, .inl (K 0, 16, .inl fw))] ∧ va_S A s.heap H locs ∧ lv_has ls 6 [(3, .int (nI t)), (0, .ref m0), (1, .int b), (2, .int (nI pl))]) 0 (Nat.zero_le _) ?_ ?_ ?_
  · intro H locs ls hI
    obtain ⟨fw, hh, hP, hD, hS, hl⟩ := hI
    refine lv_iload_n hx hb dX4_hears_2 rfl (lv_at hl 0 rfl) ?_
    refine lv_aload_n hx hb dX4_hears_3 rfl (lv_at hl 1 rfl) ?_
    refine va_get (D := D) (ci := 4) (v := .ref m1) (C := RX4) (T := TX4) (N := 18) hx hb hts hi4 hown hK hP 0 rfl rfl 1 (by decide) (hts (.fieldLink RX4 7 "PairedChannelsModel" "s" "[I") (List.mem_of_getElem? (i := 1) (by decide +kernel))) (fun _ h9 => h9) rfl dX4_hears_4 ?_
    refine lv_iconst (v := 0) hx hb dX4_hears_7 (by decide) ?_
    refine wa_iald hx hb hK hP 1 0 rfl rfl (0) rfl (by omega) (by decide) dX4_hears_8 ?_
    refine lv_eqi (nI n) (rfl) ?_
    refine lv_icmp_ge (tgt := 33) hx hb dX4_hears_9 (by decide) (fun c2 => ?_) (fun c2 => ?_)
    · skip
      have c2 : n ≤ n := (nI_leI (a := n) (b := n) (by omega) (by omega)).mp c2
      refine lv_iload_n hx hb dX4_hears_33 rfl (lv_at hl 3 rfl) ?_
      refine lv_istore_n (lv' := [(3, .int (nI pl)), (0, .ref m0), (1, .int b), (2, .int (nI pl))]) hx hb dX4_hears_34 rfl hl (by decide) rfl (fun ls hl => ?_)
      refine lv_iconst (v := 0) hx hb dX4_hears_35 (by decide) ?_
      refine lv_istore (lv' := [(4, .int 0), (3, .int (nI pl)), (0, .ref m0), (1, .int b), (2, .int (nI pl))]) hx hb dX4_hears_36 hl (by decide) rfl (fun ls hl => ?_)
      refine lv_aload_n hx hb dX4_hears_38 rfl (lv_at hl 2 rfl) ?_
      refine va_get (D := D) (ci := 4) (v := .ref m1) (C := RX4) (T := TX4) (N := 18) hx hb hts hi4 hown hK hP 0 rfl rfl 1 (by decide) (hts (.fieldLink RX4 7 "PairedChannelsModel" "s" "[I") (List.mem_of_getElem? (i := 1) (by decide +kernel))) (fun _ h9 => h9) rfl dX4_hears_39 ?_
      refine lv_iconst (v := 0) hx hb dX4_hears_42 (by decide) ?_
      refine wa_iald hx hb hK hP 1 0 rfl rfl (0) rfl (by omega) (by decide) dX4_hears_43 ?_
      refine lv_eqi (nI n) (rfl) ?_
      refine lv_iconst (v := 2) hx hb dX4_hears_44 (by decide) ?_
      refine lv_idiv hx hb dX4_hears_45 (by decide) ?_
      refine lv_eqi (nI (n / 2)) (pk_div (a := n) (d := 2) (by omega) (by omega) (by omega)) ?_
      refine lv_eqi (nI (2 ^ (lg n) / 2)) (by rw [← lg_pow hn.n1]) ?_
      refine lv_istore (lv' := [(5, .int (nI (2 ^ (lg n) / 2))), (4, .int 0), (3, .int (nI pl)), (0, .ref m0), (1, .int b), (2, .int (nI pl))]) hx hb dX4_hears_46 hl (by decide) rfl (fun ls hl => ?_)
      have e9 : 0 = (nI (pl - pl)) := by rw [Nat.sub_self]; rfl
      rw [e9] at hl
      refine g_loopD (st := []) (N := (lg n)) (fun k H locs ls => ∃ rs : Nat, ∃ rww : Nat → Int32, (k ≤ 4 ∧ rs < 2 ^ k ∧ rs ≤ pl ∧ hearF b pl k rs rww = hea n vf pl b) ∧ va_P D vwCl [(m0, .inr (4, [.int th, .ref m1, .ref m2, .ref m3, .int (nI sy), .ref m4, .int (nI ly), .ref m5, .ref m6, .int (nI py), .ref m7, .ref m8, .ref m9, .int (nI ay), .int (if iw = true then 1 else 0), .ref m10, .int (nI ty), .long hy])), (m1, .inl (K 0, 22, .inl (mst n mask vf sf))), (m9, .inl (K 0, 16, .inl rww))] H ∧ va_D A [(m0, .inr (4, [.int th, .ref m1, .ref m2, .ref m3, .int (nI sy), .ref m4, .int (nI ly), .ref m5, .ref m6, .int (nI py), .ref m7, .ref m8, .ref m9, .int (nI ay), .int (if iw = true then 1 else 0), .ref m10, .int (nI ty), .long hy])), (m1, .inl (K 0, 22, .inl (mst n mask vf sf))), (m9, .inl (K 0, 16, .inl rww))] ∧ va_S A s.heap H locs ∧ lv_has ls 6 [(5, .int (nI (2 ^ k / 2))), (4, .int (nI (pl - rs))), (3, .int (nI rs)), (0, .ref m0), (1, .int b), (2, .int (nI pl))])  ?_ ?_ ?_
      · intro H locs ls hI
        obtain ⟨rs, rww, ⟨hk4, hrs, hrp, hz⟩, hP, hD, hS, hl⟩ := hI
        refine lv_iload hx hb dX4_hears_48 (lv_at hl 0 rfl) ?_
        refine lv_if_le (tgt := 104) hx hb dX4_hears_50 (by decide) (fun c0 => ?_) (fun c0 => ?_)
        · skip
          have c0 : 2 ^ 0 / 2 ≤ 0 := (nI_leI (a := 2 ^ 0 / 2) (b := 0) (by omega) (by omega)).mp c0
          refine lv_aload_n hx hb dX4_hears_104 rfl (lv_at hl 3 rfl) ?_
          refine va_get (D := D) (ci := 4) (v := .ref m9) (C := RX4) (T := TX4) (N := 18) hx hb hts hi4 hown hK hP 0 rfl rfl 12 (by decide) (hts (.fieldLink RX4 34 "PairedChannelsModel" "row" "[I") (List.mem_of_getElem? (i := 2) (by decide +kernel))) (fun _ h9 => h9) rfl dX4_hears_105 ?_
          refine lv_iconst (v := 0) hx hb dX4_hears_108 (by decide) ?_
          refine wa_iald hx hb hK hP 2 0 rfl rfl (0) rfl (by omega) (by decide) dX4_hears_109 ?_
          exact gW_iret (v := rww 0) rww hx hb hr hlk (rfl) hK hP hD hS (hz) dX4_hears_110
        · skip
          have c0 : ¬ 2 ^ 0 / 2 ≤ 0 := fun h9 => c0 ((nI_leI (a := 2 ^ 0 / 2) (b := 0) (by omega) (by omega)).mpr h9)
          exact absurd (by decide) c0
      · intro k ih3 H locs ls hI
        obtain ⟨rs, rww, ⟨hk4, hrs, hrp, hz⟩, hP, hD, hS, hl⟩ := hI
        have hpw := pw_le hk4
        have hph := pw_half k
        have hps := pw_s k
        have hpk := pw_le (k := k) (by omega)
        refine lv_iload hx hb dX4_hears_48 (lv_at hl 0 rfl) ?_
        refine lv_if_le (tgt := 104) hx hb dX4_hears_50 (by decide) (fun c0 => ?_) (fun c0 => ?_)
        · skip
          have c0 : 2 ^ (k + 1) / 2 ≤ 0 := (nI_leI (a := 2 ^ (k + 1) / 2) (b := 0) (by omega) (by omega)).mp c0
          omega
        · skip
          have c0 : ¬ 2 ^ (k + 1) / 2 ≤ 0 := fun h9 => c0 ((nI_leI (a := 2 ^ (k + 1) / 2) (b := 0) (by omega) (by omega)).mpr h9)
          have e9 : (nI (2 ^ (k + 1) / 2)) = (nI (2 ^ k)) := by rw [hph]
          rw [e9] at hl
          refine lv_iload_n hx hb dX4_hears_53 rfl (lv_at hl 2 rfl) ?_
          refine lv_iload hx hb dX4_hears_54 (lv_at hl 0 rfl) ?_
          refine lv_icmp_ge (tgt := 68) hx hb dX4_hears_56 (by decide) (fun c6 => ?_) (fun c6 => ?_)
          · skip
            have c6 : 2 ^ k ≤ rs := (nI_leI (a := 2 ^ k) (b := rs) (by omega) (by omega)).mp c6
            refine lv_aload_n hx hb dX4_hears_68 rfl (lv_at hl 3 rfl) ?_
            refine lv_iload hx hb dX4_hears_69 (lv_at hl 0 rfl) ?_
            refine lv_iload_n hx hb dX4_hears_71 rfl (lv_at hl 4 rfl) ?_
            refine lv_iload hx hb dX4_hears_72 (lv_at hl 1 rfl) ?_
            refine lv_ishr hx hb dX4_hears_74 ?_
            refine lv_iload hx hb dX4_hears_75 (lv_at hl 0 rfl) ?_
            refine gR_i (va_runS (As := [.int (b >>> ((nI (pl - rs)) &&& 31)), .int (nI (2 ^ k))]) (rest := [.int (nI (2 ^ k)), .ref m0]) ⟨hx, hb, hml, hown, hts⟩ (c_X4_coded l D K (b >>> ((nI (pl - rs)) &&& 31)) (2 ^ k) (okN1_pow (by omega))) (va_cwS 2 hts gX4_hears_X4_coded rfl rfl rfl (by decide +kernel) ⟨Nat.le_of_ble_eq_true rfl, Nat.le_of_ble_eq_true rfl⟩) (gR_pre hE hS hK hP [] rfl) rfl rfl hl.1 rfl (lv_room (Nat.le_of_ble_eq_true rfl)) dX4_hears_77 ⟨Nat.le_of_ble_eq_true rfl, Nat.le_of_ble_eq_true rfl⟩) hS hP (fun rv8 H locs h7 hP hS => ?_)
            have h7 : rv8 = cod (b >>> ((nI (pl - rs)) &&& 31)) (2 ^ k) := h7
            subst h7
            refine gW_v (wr := [(m1, .inl (K 0, 22, .inl (mst n mask vf sf)))]) (W2 := (fun (u : Unit) => [(m0, .inr (4, [.int th, .ref m1, .ref m2, .ref m3, .int (nI sy), .ref m4, .int (nI ly), .ref m5, .ref m6, .int (nI py), .ref m7, .ref m8, .ref m9, .int (nI ay), .int (if iw = true then 1 else 0), .ref m10, .int (nI ty), .long hy])), (m1, .inl (K 0, 22, .inl (mst n mask vf sf))), (m9, .inl (K 0, 16, .inl (prR (2 ^ k) (cod (b >>> ((nI (pl - rs)) &&& 31)) (2 ^ k)) rww (2 ^ k))))])) (va_runV (As := [.int (nI (2 ^ k)), .int (cod (b >>> ((nI (pl - rs)) &&& 31)) (2 ^ k))]) (rest := []) ⟨hx, hb, hml, hown, hts⟩ ((c_X4_adds l D K m0 m1 m2 m3 m4 m5 m6 m7 m8 m9 m10 th sy ly py ay iw ty hy (2 ^ k) (cod (b >>> ((nI (pl - rs)) &&& 31)) (2 ^ k)) rww (by omega)) _) (cwV 2 hts gX4_hears_X4_adds rfl rfl rfl (by decide +kernel) ⟨Nat.le_of_ble_eq_true rfl, Nat.le_of_ble_eq_true rfl⟩) (gW_preV hE hS hK hP hD hA [0, 2] rfl (by decide) 0 rfl rfl rfl) rfl rfl hl.1 rfl (lv_room (Nat.le_of_ble_eq_true rfl)) dX4_hears_80 ⟨Nat.le_of_ble_eq_true rfl, Nat.le_of_ble_eq_true rfl⟩) hS hP hD hA [0, 2] [1] [1, 0, 2] rfl rfl (by decide) (by decide) (by decide) (fun _ => rfl) (fun u9 H locs h10 hP hD hS => ?_)
            have hP : va_P D vwCl [(m0, .inr (4, [.int th, .ref m1, .ref m2, .ref m3, .int (nI sy), .ref m4, .int (nI ly), .ref m5, .ref m6, .int (nI py), .ref m7, .ref m8, .ref m9, .int (nI ay), .int (if iw = true then 1 else 0), .ref m10, .int (nI ty), .long hy])), (m1, .inl (K 0, 22, .inl (mst n mask vf sf))), (m9, .inl (K 0, 16, .inl (prR (2 ^ k) (cod (b >>> ((nI (pl - rs)) &&& 31)) (2 ^ k)) rww (2 ^ k))))] _ := hP
            have hD : va_D A [(m0, .inr (4, [.int th, .ref m1, .ref m2, .ref m3, .int (nI sy), .ref m4, .int (nI ly), .ref m5, .ref m6, .int (nI py), .ref m7, .ref m8, .ref m9, .int (nI ay), .int (if iw = true then 1 else 0), .ref m10, .int (nI ty), .long hy])), (m1, .inl (K 0, 22, .inl (mst n mask vf sf))), (m9, .inl (K 0, 16, .inl (prR (2 ^ k) (cod (b >>> ((nI (pl - rs)) &&& 31)) (2 ^ k)) rww (2 ^ k))))] := hD
            refine lv_iload_n hx hb dX4_hears_83 rfl (lv_at hl 2 rfl) ?_
            refine lv_iload hx hb dX4_hears_84 (lv_at hl 0 rfl) ?_
            refine lv_isub hx hb dX4_hears_86 ?_
            refine lv_eqi (nI (rs - 2 ^ k)) (pk_sub (by omega)) ?_
            refine lv_istore_n (lv' := [(3, .int (nI (rs - 2 ^ k))), (5, .int (nI (2 ^ k))), (4, .int (nI (pl - rs))), (0, .ref m0), (1, .int b), (2, .int (nI pl))]) hx hb dX4_hears_87 rfl hl (by decide) rfl (fun ls hl => ?_)
            refine lv_iload hx hb dX4_hears_88 (lv_at hl 2 rfl) ?_
            refine lv_iload hx hb dX4_hears_90 (lv_at hl 1 rfl) ?_
            refine lv_iadd hx hb dX4_hears_92 ?_
            refine lv_eqi (nI ((pl - rs) + (2 ^ k))) ((nI_add (pl - rs) (2 ^ k)).trans (congrArg nI (by omega))) ?_
            refine lv_eqi (nI (pl - (rs - 2 ^ k))) (congrArg nI (by omega)) ?_
            refine lv_istore (lv' := [(4, .int (nI (pl - (rs - 2 ^ k)))), (3, .int (nI (rs - 2 ^ k))), (5, .int (nI (2 ^ k))), (0, .ref m0), (1, .int b), (2, .int (nI pl))]) hx hb dX4_hears_93 hl (by decide) rfl (fun ls hl => ?_)
            refine lv_iload hx hb dX4_hears_95 (lv_at hl 2 rfl) ?_
            refine lv_iconst (v := 2) hx hb dX4_hears_97 (by decide) ?_
            refine lv_idiv hx hb dX4_hears_98 (by decide) ?_
            refine lv_eqi (nI ((2 ^ k) / 2)) (pk_div (a := 2 ^ k) (d := 2) (by omega) (by omega) (by omega)) ?_
            refine lv_istore (lv' := [(5, .int (nI ((2 ^ k) / 2))), (4, .int (nI (pl - (rs - 2 ^ k)))), (3, .int (nI (rs - 2 ^ k))), (0, .ref m0), (1, .int b), (2, .int (nI pl))]) hx hb dX4_hears_99 hl (by decide) rfl (fun ls hl => ?_)
            refine lv_goto (tgt := 48) hx hb dX4_hears_101 (by decide) ?_
            exact ih3 H locs ls ⟨(rs - 2 ^ k), (prR (2 ^ k) (cod (b >>> ((nI (pl - rs)) &&& 31)) (2 ^ k)) rww (2 ^ k)), (⟨by omega, by omega, by omega, by rw [← hz]; show _ = (if rs < 2 ^ k then hearF b pl k rs (puR (2 ^ k) rww (2 ^ k)) else hearF b pl k (rs - 2 ^ k) (prR (2 ^ k) (cod (b >>> (nI (pl - rs) &&& 31)) (2 ^ k)) rww (2 ^ k))); first | (first | exact (g_ip (by omega) rfl) | exact (g_tp (by omega) rfl) | exact (g_ap (by omega) rfl)) | (first | exact (g_in (by omega) rfl) | exact (g_tn (by omega) rfl) | exact (g_an (by omega) rfl))⟩), hP, hD, hS, lv_sub hl [0, 1, 2, 3, 4, 5] rfl⟩
          · skip
            have c6 : ¬ 2 ^ k ≤ rs := fun h9 => c6 ((nI_leI (a := 2 ^ k) (b := rs) (by omega) (by omega)).mpr h9)
            refine lv_aload_n hx hb dX4_hears_59 rfl (lv_at hl 3 rfl) ?_
            refine lv_iload hx hb dX4_hears_60 (lv_at hl 0 rfl) ?_
            refine gW_v (wr := [(m1, .inl (K 0, 22, .inl (mst n mask vf sf)))]) (W2 := (fun (u : Unit) => [(m0, .inr (4, [.int th, .ref m1, .ref m2, .ref m3, .int (nI sy), .ref m4, .int (nI ly), .ref m5, .ref m6, .int (nI py), .ref m7, .ref m8, .ref m9, .int (nI ay), .int (if iw = true then 1 else 0), .ref m10, .int (nI ty), .long hy])), (m1, .inl (K 0, 22, .inl (mst n mask vf sf))), (m9, .inl (K 0, 16, .inl (puR (2 ^ k) rww (2 ^ k))))])) (va_runV (As := [.int (nI (2 ^ k))]) (rest := []) ⟨hx, hb, hml, hown, hts⟩ ((c_X4_pairs l D K m0 m1 m2 m3 m4 m5 m6 m7 m8 m9 m10 th sy ly py ay iw ty hy (2 ^ k) rww (by omega)) _) (cwV 1 hts gX4_hears_X4_pairs rfl rfl rfl (by decide +kernel) ⟨Nat.le_of_ble_eq_true rfl, Nat.le_of_ble_eq_true rfl⟩) (gW_preV hE hS hK hP hD hA [0, 2] rfl (by decide) 0 rfl rfl rfl) rfl rfl hl.1 rfl (lv_room (Nat.le_of_ble_eq_true rfl)) dX4_hears_62 ⟨Nat.le_of_ble_eq_true rfl, Nat.le_of_ble_eq_true rfl⟩) hS hP hD hA [0, 2] [1] [1, 0, 2] rfl rfl (by decide) (by decide) (by decide) (fun _ => rfl) (fun u12 H locs h13 hP hD hS => ?_)
            have hP : va_P D vwCl [(m0, .inr (4, [.int th, .ref m1, .ref m2, .ref m3, .int (nI sy), .ref m4, .int (nI ly), .ref m5, .ref m6, .int (nI py), .ref m7, .ref m8, .ref m9, .int (nI ay), .int (if iw = true then 1 else 0), .ref m10, .int (nI ty), .long hy])), (m1, .inl (K 0, 22, .inl (mst n mask vf sf))), (m9, .inl (K 0, 16, .inl (puR (2 ^ k) rww (2 ^ k))))] _ := hP
            have hD : va_D A [(m0, .inr (4, [.int th, .ref m1, .ref m2, .ref m3, .int (nI sy), .ref m4, .int (nI ly), .ref m5, .ref m6, .int (nI py), .ref m7, .ref m8, .ref m9, .int (nI ay), .int (if iw = true then 1 else 0), .ref m10, .int (nI ty), .long hy])), (m1, .inl (K 0, 22, .inl (mst n mask vf sf))), (m9, .inl (K 0, 16, .inl (puR (2 ^ k) rww (2 ^ k))))] := hD
            refine lv_goto (tgt := 95) hx hb dX4_hears_65 (by decide) ?_
            refine lv_iload hx hb dX4_hears_95 (lv_at hl 0 rfl) ?_
            refine lv_iconst (v := 2) hx hb dX4_hears_97 (by decide) ?_
            refine lv_idiv hx hb dX4_hears_98 (by decide) ?_
            refine lv_eqi (nI ((2 ^ k) / 2)) (pk_div (a := 2 ^ k) (d := 2) (by omega) (by omega) (by omega)) ?_
            refine lv_istore (lv' := [(5, .int (nI ((2 ^ k) / 2))), (4, .int (nI (pl - rs))), (3, .int (nI rs)), (0, .ref m0), (1, .int b), (2, .int (nI pl))]) hx hb dX4_hears_99 hl (by decide) rfl (fun ls hl => ?_)
            refine lv_goto (tgt := 48) hx hb dX4_hears_101 (by decide) ?_
            exact ih3 H locs ls ⟨rs, (puR (2 ^ k) rww (2 ^ k)), (⟨by omega, by omega, by omega, by rw [← hz]; show _ = (if rs < 2 ^ k then hearF b pl k rs (puR (2 ^ k) rww (2 ^ k)) else hearF b pl k (rs - 2 ^ k) (prR (2 ^ k) (cod (b >>> (nI (pl - rs) &&& 31)) (2 ^ k)) rww (2 ^ k))); first | (first | exact (g_ip (by omega) rfl) | exact (g_tp (by omega) rfl) | exact (g_ap (by omega) rfl)) | (first | exact (g_in (by omega) rfl) | exact (g_tn (by omega) rfl) | exact (g_an (by omega) rfl))⟩), hP, hD, hS, lv_sub hl [0, 1, 2, 3, 4, 5] rfl⟩
      · exact ⟨pl, fw, (⟨lg_le hn.n1, by rw [← lg_pow hn.n1]; exact hp, Nat.le_refl _, hearF_cong b pl (lg n) pl fw vf (fun j hj => hh j (by rw [lg_pow hn.n1]; exact hj))⟩), hP, hD, hS, lv_sub hl [0, 1, 2, 3, 4, 5] rfl⟩
    · skip
      have c2 : ¬ n ≤ n := fun h9 => c2 ((nI_leI (a := n) (b := n) (by omega) (by omega)).mpr h9)
      omega
  · intro t ht ih1 H locs ls hI
    obtain ⟨fw, hh, hP, hD, hS, hl⟩ := hI
    refine lv_iload_n hx hb dX4_hears_2 rfl (lv_at hl 0 rfl) ?_
    refine lv_aload_n hx hb dX4_hears_3 rfl (lv_at hl 1 rfl) ?_
    refine va_get (D := D) (ci := 4) (v := .ref m1) (C := RX4) (T := TX4) (N := 18) hx hb hts hi4 hown hK hP 0 rfl rfl 1 (by decide) (hts (.fieldLink RX4 7 "PairedChannelsModel" "s" "[I") (List.mem_of_getElem? (i := 1) (by decide +kernel))) (fun _ h9 => h9) rfl dX4_hears_4 ?_
    refine lv_iconst (v := 0) hx hb dX4_hears_7 (by decide) ?_
    refine wa_iald hx hb hK hP 1 0 rfl rfl (0) rfl (by omega) (by decide) dX4_hears_8 ?_
    refine lv_eqi (nI n) (rfl) ?_
    refine lv_icmp_ge (tgt := 33) hx hb dX4_hears_9 (by decide) (fun c15 => ?_) (fun c15 => ?_)
    · skip
      have c15 : n ≤ t := (nI_leI (a := n) (b := t) (by omega) (by omega)).mp c15
      omega
    · skip
      have c15 : ¬ n ≤ t := fun h9 => c15 ((nI_leI (a := n) (b := t) (by omega) (by omega)).mpr h9)
      refine lv_aload_n hx hb dX4_hears_12 rfl (lv_at hl 1 rfl) ?_
      refine va_get (D := D) (ci := 4) (v := .ref m9) (C := RX4) (T := TX4) (N := 18) hx hb hts hi4 hown hK hP 0 rfl rfl 12 (by decide) (hts (.fieldLink RX4 34 "PairedChannelsModel" "row" "[I") (List.mem_of_getElem? (i := 2) (by decide +kernel))) (fun _ h9 => h9) rfl dX4_hears_13 ?_
      refine lv_iload_n hx hb dX4_hears_16 rfl (lv_at hl 0 rfl) ?_
      refine lv_aload_n hx hb dX4_hears_17 rfl (lv_at hl 1 rfl) ?_
      refine va_get (D := D) (ci := 4) (v := .ref m1) (C := RX4) (T := TX4) (N := 18) hx hb hts hi4 hown hK hP 0 rfl rfl 1 (by decide) (hts (.fieldLink RX4 7 "PairedChannelsModel" "s" "[I") (List.mem_of_getElem? (i := 1) (by decide +kernel))) (fun _ h9 => h9) rfl dX4_hears_18 ?_
      refine lv_bipush (v := 6) hx hb dX4_hears_21 (by decide) ?_
      refine lv_iload_n hx hb dX4_hears_23 rfl (lv_at hl 0 rfl) ?_
      refine lv_iadd hx hb dX4_hears_24 ?_
      refine lv_eqi (nI (6 + t)) (nI_add 6 t) ?_
      refine wa_iald hx hb hK hP 1 0 rfl rfl (6 + t) rfl (by omega) (by decide) dX4_hears_25 ?_
      refine lv_eqi (vf t) (mst_p _) ?_
      refine wa_iast (x := vf t) hx hb hK hP hD hS 2 0 rfl rfl (t) rfl (by omega) (by decide) dX4_hears_26 (fun H locs hP hD hS => ?_)
      have hP : va_P D vwCl [(m0, .inr (4, [.int th, .ref m1, .ref m2, .ref m3, .int (nI sy), .ref m4, .int (nI ly), .ref m5, .ref m6, .int (nI py), .ref m7, .ref m8, .ref m9, .int (nI ay), .int (if iw = true then 1 else 0), .ref m10, .int (nI ty), .long hy])), (m1, .inl (K 0, 22, .inl (mst n mask vf sf))), (m9, .inl (K 0, 16, .inl (upd fw t (vf t))))] _ := hP
      have hD : va_D A [(m0, .inr (4, [.int th, .ref m1, .ref m2, .ref m3, .int (nI sy), .ref m4, .int (nI ly), .ref m5, .ref m6, .int (nI py), .ref m7, .ref m8, .ref m9, .int (nI ay), .int (if iw = true then 1 else 0), .ref m10, .int (nI ty), .long hy])), (m1, .inl (K 0, 22, .inl (mst n mask vf sf))), (m9, .inl (K 0, 16, .inl (upd fw t (vf t))))] := hD
      refine lv_iinc (v := nI (t + 1)) (lv' := [(3, .int (nI (t + 1))), (0, .ref m0), (1, .int b), (2, .int (nI pl))]) hx hb dX4_hears_27 hl (k := 0) rfl (nI_add t 1) (by decide) rfl (fun ls hl => ?_)
      refine lv_goto (tgt := 2) hx hb dX4_hears_30 (by decide) ?_
      exact ih1 H locs ls ⟨(upd fw t (vf t)), (fun q hq => by by_cases e : q = t; subst e; exact pk_us; rw [pk_un e]; exact hh q (by omega)), hP, hD, hS, lv_sub hl [0, 1, 2, 3] rfl⟩
  · exact ⟨fw, (fun q hq => absurd hq (Nat.not_lt_zero q)), hP, hD, hS, lv_sub hl [0, 1, 2, 3] rfl⟩

set_option maxHeartbeats 4000000 in
set_option maxRecDepth 100000 in
theorem c_X4_goesOn (l : Launch) (D : va_G) (K : Nat → ClassId) (m0 : Nat) (m1 : Nat) (m2 : Nat) (m3 : Nat) (m4 : Nat) (m5 : Nat) (m6 : Nat) (m7 : Nat) (m8 : Nat) (m9 : Nat) (m10 : Nat) (th : Int32) (sy : Nat) (ly : Nat) (py : Nat) (ay : Nat) (iw : Bool) (ty : Nat) (hy : Int64) (n : Nat) (mask : Int32) (vf : Nat → Int32) (sf : Nat → Int32) (t : Nat) (pl : Nat) (bt : Int32) (fw : Nat → Int32) (fb : Nat → Int32) (fp : Nat → Int32) (gb : Nat → Int32) (gp : Nat → Int32) (hn : okN n) (hp : pl < n) (ht8 : t < 8) (hpy : py < 8) : MWv l yX4_goesOn wsX4_goesOn ({ frames := 3, cells := 0, slots := 0, locals := 70 } : Room) D (gTy K) [.ref m0, .int (nI t), .int (nI pl), .int bt] [(m0, .inr (4, [.int th, .ref m1, .ref m2, .ref m3, .int (nI sy), .ref m4, .int (nI ly), .ref m5, .ref m6, .int (nI py), .ref m7, .ref m8, .ref m9, .int (nI ay), .int (if iw = true then 1 else 0), .ref m10, .int (nI ty), .long hy])), (m1, .inl (K 0, 22, .inl (mst n mask vf sf))), (m9, .inl (K 0, 16, .inl fw)), (m5, .inl (K 0, 8, .inl fb)), (m6, .inl (K 0, 8, .inl fp)), (m7, .inl (K 0, 8, .inl gb)), (m8, .inl (K 0, 8, .inl gp))] (fun (u : Nat → Int32) => [(m0, .inr (4, [.int th, .ref m1, .ref m2, .ref m3, .int (nI sy), .ref m4, .int (nI ly), .ref m5, .ref m6, .int (nI (py + 1)), .ref m7, .ref m8, .ref m9, .int (nI ay), .int (if iw = true then 1 else 0), .ref m10, .int (nI ty), .long hy])), (m1, .inl (K 0, 22, .inl (mst n mask vf sf))), (m9, .inl (K 0, 16, .inl u)), (m5, .inl (K 0, 8, .inl fb)), (m6, .inl (K 0, 8, .inl fp)), (m7, .inl (K 0, 8, .inl (upd gb py (fb t ||| (bt <<< (nI pl &&& 31)))))), (m8, .inl (K 0, 8, .inl (upd gp py (fp t + pnB bt (hea n vf pl (fb t))))))]) (fun (u : Nat → Int32) => True) 0 0 := by
  refine g_ofW (Qc := fun A => va_Qv _ (gB D (gTy K) A _) A) (cc := cX4_goesOn) (maxL := 6) (ret := none) (own := RX4) (by decide) rfl rfl (Nat.le_of_ble_eq_true rfl) ?_
  intro pp ee s mm below meth cc A hfx hnm hK hP hD hE hS hA ls hl
  obtain ⟨hx, hb, hr, hml, hown, hts, hlk⟩ := hfx
  have hl : lv_has ls 6 [(0, .ref m0), (1, .int (nI t)), (2, .int (nI pl)), (3, .int bt)] := hl
  have hi4 : ∀ w ∈ u_ws RX4 TX4 18, w ∈ wsX4_goesOn := fun w h => List.mem_cons_of_mem _ (List.mem_append_right _ (h))
  have hnl := hn.le
  refine lv_aload_n hx hb dX4_goesOn_0 rfl (lv_at hl 0 rfl) ?_
  refine lv_aload_n hx hb dX4_goesOn_1 rfl (lv_at hl 0 rfl) ?_
  refine va_get (D := D) (ci := 4) (v := .ref m5) (C := RX4) (T := TX4) (N := 18) hx hb hts hi4 hown hK hP 0 rfl rfl 7 (by decide) (hts (.fieldLink RX4 22 "PairedChannelsModel" "bits" "[I") (List.mem_of_getElem? (i := 1) (by decide +kernel))) (fun _ h9 => h9) rfl dX4_goesOn_2 ?_
  refine lv_iload_n hx hb dX4_goesOn_5 rfl (lv_at hl 1 rfl) ?_
  refine wa_iald hx hb hK hP 3 0 rfl rfl (t) rfl (by omega) (by decide) dX4_goesOn_6 ?_
  refine lv_iload_n hx hb dX4_goesOn_7 rfl (lv_at hl 2 rfl) ?_
  refine gW_i (wr := [(m5, .inl (K 0, 8, .inl fb)), (m6, .inl (K 0, 8, .inl fp)), (m7, .inl (K 0, 8, .inl gb)), (m8, .inl (K 0, 8, .inl gp))]) (W2 := (fun (u : Nat → Int32) => [(m0, .inr (4, [.int th, .ref m1, .ref m2, .ref m3, .int (nI sy), .ref m4, .int (nI ly), .ref m5, .ref m6, .int (nI py), .ref m7, .ref m8, .ref m9, .int (nI ay), .int (if iw = true then 1 else 0), .ref m10, .int (nI ty), .long hy])), (m1, .inl (K 0, 22, .inl (mst n mask vf sf))), (m9, .inl (K 0, 16, .inl u)), (m5, .inl (K 0, 8, .inl fb)), (m6, .inl (K 0, 8, .inl fp)), (m7, .inl (K 0, 8, .inl gb)), (m8, .inl (K 0, 8, .inl gp))])) (va_runV (As := [.int (fb t), .int (nI pl)]) (rest := []) ⟨hx, hb, hml, hown, hts⟩ ((c_X4_hears l D K m0 m1 m2 m3 m4 m5 m6 m7 m8 m9 m10 th sy ly py ay iw ty hy n mask vf sf (fb t) pl fw (by first | assumption | omega) (by first | assumption | omega)) _) (cwV 2 hts gX4_goesOn_X4_hears rfl rfl rfl (by decide +kernel) ⟨Nat.le_of_ble_eq_true rfl, Nat.le_of_ble_eq_true rfl⟩) (gW_preV hE hS hK hP hD hA [0, 1, 2] rfl (by decide) 0 rfl rfl rfl) rfl rfl hl.1 rfl (lv_room (Nat.le_of_ble_eq_true rfl)) dX4_goesOn_8 ⟨Nat.le_of_ble_eq_true rfl, Nat.le_of_ble_eq_true rfl⟩) hS hP hD hA [0, 1, 2] [3, 4, 5, 6] [4, 5, 6, 0, 1, 2, 3] rfl rfl (by decide) (by decide) (by decide) (fun _ => rfl) (fun rv3 u1 H locs h2 hP hD hS => ?_)
  have hP : va_P D vwCl [(m0, .inr (4, [.int th, .ref m1, .ref m2, .ref m3, .int (nI sy), .ref m4, .int (nI ly), .ref m5, .ref m6, .int (nI py), .ref m7, .ref m8, .ref m9, .int (nI ay), .int (if iw = true then 1 else 0), .ref m10, .int (nI ty), .long hy])), (m1, .inl (K 0, 22, .inl (mst n mask vf sf))), (m9, .inl (K 0, 16, .inl u1)), (m5, .inl (K 0, 8, .inl fb)), (m6, .inl (K 0, 8, .inl fp)), (m7, .inl (K 0, 8, .inl gb)), (m8, .inl (K 0, 8, .inl gp))] _ := hP
  have hD : va_D A [(m0, .inr (4, [.int th, .ref m1, .ref m2, .ref m3, .int (nI sy), .ref m4, .int (nI ly), .ref m5, .ref m6, .int (nI py), .ref m7, .ref m8, .ref m9, .int (nI ay), .int (if iw = true then 1 else 0), .ref m10, .int (nI ty), .long hy])), (m1, .inl (K 0, 22, .inl (mst n mask vf sf))), (m9, .inl (K 0, 16, .inl u1)), (m5, .inl (K 0, 8, .inl fb)), (m6, .inl (K 0, 8, .inl fp)), (m7, .inl (K 0, 8, .inl gb)), (m8, .inl (K 0, 8, .inl gp))] := hD
  have h2 : rv3 = hea n vf pl (fb t) := h2
  subst h2
  refine lv_istore (lv' := [(4, .int (hea n vf pl (fb t))), (0, .ref m0), (1, .int (nI t)), (2, .int (nI pl)), (3, .int bt)]) hx hb dX4_goesOn_11 hl (by decide) rfl (fun ls hl => ?_)
  refine lv_iload_n hx hb dX4_goesOn_13 rfl (lv_at hl 4 rfl) ?_
  refine lv_if_ne (tgt := 30) hx hb dX4_goesOn_14 (by decide) (fun c14 => ?_) (fun c14 => ?_)
  · skip
    refine lv_iload hx hb dX4_goesOn_30 (lv_at hl 0 rfl) ?_
    refine lv_if_le (tgt := 39) hx hb dX4_goesOn_32 (by decide) (fun c32 => ?_) (fun c32 => ?_)
    · skip
      refine lv_iconst (v := 0) hx hb dX4_goesOn_39 (by decide) ?_
      refine lv_istore (lv' := [(5, .int 0), (4, .int (hea n vf pl (fb t))), (0, .ref m0), (1, .int (nI t)), (2, .int (nI pl)), (3, .int bt)]) hx hb dX4_goesOn_40 hl (by decide) rfl (fun ls hl => ?_)
      refine lv_aload_n hx hb dX4_goesOn_42 rfl (lv_at hl 2 rfl) ?_
      refine va_get (D := D) (ci := 4) (v := .ref m7) (C := RX4) (T := TX4) (N := 18) hx hb hts hi4 hown hK hP 0 rfl rfl 10 (by decide) (hts (.fieldLink RX4 28 "PairedChannelsModel" "newBits" "[I") (List.mem_of_getElem? (i := 2) (by decide +kernel))) (fun _ h9 => h9) rfl dX4_goesOn_43 ?_
      refine lv_aload_n hx hb dX4_goesOn_46 rfl (lv_at hl 2 rfl) ?_
      refine va_get (D := D) (ci := 4) (v := .int (nI py)) (C := RX4) (T := TX4) (N := 18) hx hb hts hi4 hown hK hP 0 rfl rfl 9 (by decide) (hts (.fieldLink RX4 99 "PairedChannelsModel" "pathMany" "I") (List.mem_of_getElem? (i := 3) (by decide +kernel))) (fun _ h9 => h9) rfl dX4_goesOn_47 ?_
      refine lv_aload_n hx hb dX4_goesOn_50 rfl (lv_at hl 2 rfl) ?_
      refine va_get (D := D) (ci := 4) (v := .ref m5) (C := RX4) (T := TX4) (N := 18) hx hb hts hi4 hown hK hP 0 rfl rfl 7 (by decide) (hts (.fieldLink RX4 22 "PairedChannelsModel" "bits" "[I") (List.mem_of_getElem? (i := 1) (by decide +kernel))) (fun _ h9 => h9) rfl dX4_goesOn_51 ?_
      refine lv_iload_n hx hb dX4_goesOn_54 rfl (lv_at hl 3 rfl) ?_
      refine wa_iald hx hb hK hP 3 0 rfl rfl (t) rfl (by omega) (by decide) dX4_goesOn_55 ?_
      refine lv_iload_n hx hb dX4_goesOn_56 rfl (lv_at hl 5 rfl) ?_
      refine lv_iload_n hx hb dX4_goesOn_57 rfl (lv_at hl 4 rfl) ?_
      refine lv_ishl hx hb dX4_goesOn_58 ?_
      refine lv_ior hx hb dX4_goesOn_59 ?_
      refine lv_eqi ((fb t ||| (bt <<< (nI pl &&& 31)))) (rfl) ?_
      refine wa_iast (x := (fb t ||| (bt <<< (nI pl &&& 31)))) hx hb hK hP hD hS 5 0 rfl rfl (py) rfl (by omega) (by decide) dX4_goesOn_60 (fun H locs hP hD hS => ?_)
      have hP : va_P D vwCl [(m0, .inr (4, [.int th, .ref m1, .ref m2, .ref m3, .int (nI sy), .ref m4, .int (nI ly), .ref m5, .ref m6, .int (nI py), .ref m7, .ref m8, .ref m9, .int (nI ay), .int (if iw = true then 1 else 0), .ref m10, .int (nI ty), .long hy])), (m1, .inl (K 0, 22, .inl (mst n mask vf sf))), (m9, .inl (K 0, 16, .inl u1)), (m5, .inl (K 0, 8, .inl fb)), (m6, .inl (K 0, 8, .inl fp)), (m7, .inl (K 0, 8, .inl (upd gb py (fb t ||| (bt <<< (nI pl &&& 31)))))), (m8, .inl (K 0, 8, .inl gp))] _ := hP
      have hD : va_D A [(m0, .inr (4, [.int th, .ref m1, .ref m2, .ref m3, .int (nI sy), .ref m4, .int (nI ly), .ref m5, .ref m6, .int (nI py), .ref m7, .ref m8, .ref m9, .int (nI ay), .int (if iw = true then 1 else 0), .ref m10, .int (nI ty), .long hy])), (m1, .inl (K 0, 22, .inl (mst n mask vf sf))), (m9, .inl (K 0, 16, .inl u1)), (m5, .inl (K 0, 8, .inl fb)), (m6, .inl (K 0, 8, .inl fp)), (m7, .inl (K 0, 8, .inl (upd gb py (fb t ||| (bt <<< (nI pl &&& 31)))))), (m8, .inl (K 0, 8, .inl gp))] := hD
      refine lv_aload_n hx hb dX4_goesOn_61 rfl (lv_at hl 2 rfl) ?_
      refine va_get (D := D) (ci := 4) (v := .ref m8) (C := RX4) (T := TX4) (N := 18) hx hb hts hi4 hown hK hP 0 rfl rfl 11 (by decide) (hts (.fieldLink RX4 31 "PairedChannelsModel" "newPenalties" "[I") (List.mem_of_getElem? (i := 4) (by decide +kernel))) (fun _ h9 => h9) rfl dX4_goesOn_62 ?_
      refine lv_aload_n hx hb dX4_goesOn_65 rfl (lv_at hl 2 rfl) ?_
      refine va_get (D := D) (ci := 4) (v := .int (nI py)) (C := RX4) (T := TX4) (N := 18) hx hb hts hi4 hown hK hP 0 rfl rfl 9 (by decide) (hts (.fieldLink RX4 99 "PairedChannelsModel" "pathMany" "I") (List.mem_of_getElem? (i := 3) (by decide +kernel))) (fun _ h9 => h9) rfl dX4_goesOn_66 ?_
      refine lv_aload_n hx hb dX4_goesOn_69 rfl (lv_at hl 2 rfl) ?_
      refine va_get (D := D) (ci := 4) (v := .ref m6) (C := RX4) (T := TX4) (N := 18) hx hb hts hi4 hown hK hP 0 rfl rfl 8 (by decide) (hts (.fieldLink RX4 25 "PairedChannelsModel" "penalties" "[I") (List.mem_of_getElem? (i := 5) (by decide +kernel))) (fun _ h9 => h9) rfl dX4_goesOn_70 ?_
      refine lv_iload_n hx hb dX4_goesOn_73 rfl (lv_at hl 3 rfl) ?_
      refine wa_iald hx hb hK hP 4 0 rfl rfl (t) rfl (by omega) (by decide) dX4_goesOn_74 ?_
      refine lv_iload hx hb dX4_goesOn_75 (lv_at hl 0 rfl) ?_
      refine lv_if_eq (tgt := 88) hx hb dX4_goesOn_77 (by decide) (fun c6 => ?_) (fun c6 => ?_)
      · skip
        have c6 : 0 = 0 := (nI_eq (a := 0) (b := 0) (by omega) (by omega)).mp c6
        refine lv_iconst (v := 0) hx hb dX4_goesOn_88 (by decide) ?_
        refine lv_iadd hx hb dX4_goesOn_89 ?_
        refine lv_eqi ((fp t + pnB bt (hea n vf pl (fb t)))) (congrArg (fun z => _ + z) (by first | exact pnB_a c14 c19 | exact pnB_b c14 c19 | exact pnB_c c14 c32 | exact pnB_d c14 c32)) ?_
        refine wa_iast (x := (fp t + pnB bt (hea n vf pl (fb t)))) hx hb hK hP hD hS 6 0 rfl rfl (py) rfl (by omega) (by decide) dX4_goesOn_90 (fun H locs hP hD hS => ?_)
        have hP : va_P D vwCl [(m0, .inr (4, [.int th, .ref m1, .ref m2, .ref m3, .int (nI sy), .ref m4, .int (nI ly), .ref m5, .ref m6, .int (nI py), .ref m7, .ref m8, .ref m9, .int (nI ay), .int (if iw = true then 1 else 0), .ref m10, .int (nI ty), .long hy])), (m1, .inl (K 0, 22, .inl (mst n mask vf sf))), (m9, .inl (K 0, 16, .inl u1)), (m5, .inl (K 0, 8, .inl fb)), (m6, .inl (K 0, 8, .inl fp)), (m7, .inl (K 0, 8, .inl (upd gb py (fb t ||| (bt <<< (nI pl &&& 31)))))), (m8, .inl (K 0, 8, .inl (upd gp py (fp t + pnB bt (hea n vf pl (fb t))))))] _ := hP
        have hD : va_D A [(m0, .inr (4, [.int th, .ref m1, .ref m2, .ref m3, .int (nI sy), .ref m4, .int (nI ly), .ref m5, .ref m6, .int (nI py), .ref m7, .ref m8, .ref m9, .int (nI ay), .int (if iw = true then 1 else 0), .ref m10, .int (nI ty), .long hy])), (m1, .inl (K 0, 22, .inl (mst n mask vf sf))), (m9, .inl (K 0, 16, .inl u1)), (m5, .inl (K 0, 8, .inl fb)), (m6, .inl (K 0, 8, .inl fp)), (m7, .inl (K 0, 8, .inl (upd gb py (fb t ||| (bt <<< (nI pl &&& 31)))))), (m8, .inl (K 0, 8, .inl (upd gp py (fp t + pnB bt (hea n vf pl (fb t))))))] := hD
        refine lv_aload_n hx hb dX4_goesOn_91 rfl (lv_at hl 2 rfl) ?_
        refine lv_dup hx hb dX4_goesOn_92 rfl ?_
        refine va_get (D := D) (ci := 4) (v := .int (nI py)) (C := RX4) (T := TX4) (N := 18) hx hb hts hi4 hown hK hP 0 rfl rfl 9 (by decide) (hts (.fieldLink RX4 99 "PairedChannelsModel" "pathMany" "I") (List.mem_of_getElem? (i := 3) (by decide +kernel))) (fun _ h9 => h9) rfl dX4_goesOn_93 ?_
        refine lv_iconst (v := 1) hx hb dX4_goesOn_96 (by decide) ?_
        refine lv_iadd hx hb dX4_goesOn_97 ?_
        refine lv_eqi (nI (py + 1)) (nI_add py 1) ?_
        refine va_put (D := D) (ci := 4) (v := .int (nI (py + 1))) (ty := .int) (C := RX4) (T := TX4) (N := 18) hx hb hts hi4 tyX4 tyX4_ok nmX4 hown hK hP hD hS 0 rfl rfl 9 (by decide) (hts (.fieldLink RX4 99 "PairedChannelsModel" "pathMany" "I") (List.mem_of_getElem? (i := 3) (by decide +kernel))) (fun _ h9 => h9) rfl (by decide +kernel) (rfl) (rfl) (Nat.le_of_ble_eq_true rfl) dX4_goesOn_98 (fun H locs hP hD hS => ?_)
        have hP : va_P D vwCl [(m0, .inr (4, [.int th, .ref m1, .ref m2, .ref m3, .int (nI sy), .ref m4, .int (nI ly), .ref m5, .ref m6, .int (nI (py + 1)), .ref m7, .ref m8, .ref m9, .int (nI ay), .int (if iw = true then 1 else 0), .ref m10, .int (nI ty), .long hy])), (m1, .inl (K 0, 22, .inl (mst n mask vf sf))), (m9, .inl (K 0, 16, .inl u1)), (m5, .inl (K 0, 8, .inl fb)), (m6, .inl (K 0, 8, .inl fp)), (m7, .inl (K 0, 8, .inl (upd gb py (fb t ||| (bt <<< (nI pl &&& 31)))))), (m8, .inl (K 0, 8, .inl (upd gp py (fp t + pnB bt (hea n vf pl (fb t))))))] _ := hP
        have hD : va_D A [(m0, .inr (4, [.int th, .ref m1, .ref m2, .ref m3, .int (nI sy), .ref m4, .int (nI ly), .ref m5, .ref m6, .int (nI (py + 1)), .ref m7, .ref m8, .ref m9, .int (nI ay), .int (if iw = true then 1 else 0), .ref m10, .int (nI ty), .long hy])), (m1, .inl (K 0, 22, .inl (mst n mask vf sf))), (m9, .inl (K 0, 16, .inl u1)), (m5, .inl (K 0, 8, .inl fb)), (m6, .inl (K 0, 8, .inl fp)), (m7, .inl (K 0, 8, .inl (upd gb py (fb t ||| (bt <<< (nI pl &&& 31)))))), (m8, .inl (K 0, 8, .inl (upd gp py (fp t + pnB bt (hea n vf pl (fb t))))))] := hD
        exact gW_vret u1 hx hb hr hlk hK hP hD hS (trivial) dX4_goesOn_101
      · skip
        have c6 : ¬ 0 = 0 := fun h9 => c6 ((nI_eq (a := 0) (b := 0) (by omega) (by omega)).mpr h9)
        omega
    · skip
      refine lv_iconst (v := 1) hx hb dX4_goesOn_35 (by decide) ?_
      refine lv_goto (tgt := 40) hx hb dX4_goesOn_36 (by decide) ?_
      refine lv_istore (lv' := [(5, .int 1), (4, .int (hea n vf pl (fb t))), (0, .ref m0), (1, .int (nI t)), (2, .int (nI pl)), (3, .int bt)]) hx hb dX4_goesOn_40 hl (by decide) rfl (fun ls hl => ?_)
      refine lv_aload_n hx hb dX4_goesOn_42 rfl (lv_at hl 2 rfl) ?_
      refine va_get (D := D) (ci := 4) (v := .ref m7) (C := RX4) (T := TX4) (N := 18) hx hb hts hi4 hown hK hP 0 rfl rfl 10 (by decide) (hts (.fieldLink RX4 28 "PairedChannelsModel" "newBits" "[I") (List.mem_of_getElem? (i := 2) (by decide +kernel))) (fun _ h9 => h9) rfl dX4_goesOn_43 ?_
      refine lv_aload_n hx hb dX4_goesOn_46 rfl (lv_at hl 2 rfl) ?_
      refine va_get (D := D) (ci := 4) (v := .int (nI py)) (C := RX4) (T := TX4) (N := 18) hx hb hts hi4 hown hK hP 0 rfl rfl 9 (by decide) (hts (.fieldLink RX4 99 "PairedChannelsModel" "pathMany" "I") (List.mem_of_getElem? (i := 3) (by decide +kernel))) (fun _ h9 => h9) rfl dX4_goesOn_47 ?_
      refine lv_aload_n hx hb dX4_goesOn_50 rfl (lv_at hl 2 rfl) ?_
      refine va_get (D := D) (ci := 4) (v := .ref m5) (C := RX4) (T := TX4) (N := 18) hx hb hts hi4 hown hK hP 0 rfl rfl 7 (by decide) (hts (.fieldLink RX4 22 "PairedChannelsModel" "bits" "[I") (List.mem_of_getElem? (i := 1) (by decide +kernel))) (fun _ h9 => h9) rfl dX4_goesOn_51 ?_
      refine lv_iload_n hx hb dX4_goesOn_54 rfl (lv_at hl 3 rfl) ?_
      refine wa_iald hx hb hK hP 3 0 rfl rfl (t) rfl (by omega) (by decide) dX4_goesOn_55 ?_
      refine lv_iload_n hx hb dX4_goesOn_56 rfl (lv_at hl 5 rfl) ?_
      refine lv_iload_n hx hb dX4_goesOn_57 rfl (lv_at hl 4 rfl) ?_
      refine lv_ishl hx hb dX4_goesOn_58 ?_
      refine lv_ior hx hb dX4_goesOn_59 ?_
      refine lv_eqi ((fb t ||| (bt <<< (nI pl &&& 31)))) (rfl) ?_
      refine wa_iast (x := (fb t ||| (bt <<< (nI pl &&& 31)))) hx hb hK hP hD hS 5 0 rfl rfl (py) rfl (by omega) (by decide) dX4_goesOn_60 (fun H locs hP hD hS => ?_)
      have hP : va_P D vwCl [(m0, .inr (4, [.int th, .ref m1, .ref m2, .ref m3, .int (nI sy), .ref m4, .int (nI ly), .ref m5, .ref m6, .int (nI py), .ref m7, .ref m8, .ref m9, .int (nI ay), .int (if iw = true then 1 else 0), .ref m10, .int (nI ty), .long hy])), (m1, .inl (K 0, 22, .inl (mst n mask vf sf))), (m9, .inl (K 0, 16, .inl u1)), (m5, .inl (K 0, 8, .inl fb)), (m6, .inl (K 0, 8, .inl fp)), (m7, .inl (K 0, 8, .inl (upd gb py (fb t ||| (bt <<< (nI pl &&& 31)))))), (m8, .inl (K 0, 8, .inl gp))] _ := hP
      have hD : va_D A [(m0, .inr (4, [.int th, .ref m1, .ref m2, .ref m3, .int (nI sy), .ref m4, .int (nI ly), .ref m5, .ref m6, .int (nI py), .ref m7, .ref m8, .ref m9, .int (nI ay), .int (if iw = true then 1 else 0), .ref m10, .int (nI ty), .long hy])), (m1, .inl (K 0, 22, .inl (mst n mask vf sf))), (m9, .inl (K 0, 16, .inl u1)), (m5, .inl (K 0, 8, .inl fb)), (m6, .inl (K 0, 8, .inl fp)), (m7, .inl (K 0, 8, .inl (upd gb py (fb t ||| (bt <<< (nI pl &&& 31)))))), (m8, .inl (K 0, 8, .inl gp))] := hD
      refine lv_aload_n hx hb dX4_goesOn_61 rfl (lv_at hl 2 rfl) ?_
      refine va_get (D := D) (ci := 4) (v := .ref m8) (C := RX4) (T := TX4) (N := 18) hx hb hts hi4 hown hK hP 0 rfl rfl 11 (by decide) (hts (.fieldLink RX4 31 "PairedChannelsModel" "newPenalties" "[I") (List.mem_of_getElem? (i := 4) (by decide +kernel))) (fun _ h9 => h9) rfl dX4_goesOn_62 ?_
      refine lv_aload_n hx hb dX4_goesOn_65 rfl (lv_at hl 2 rfl) ?_
      refine va_get (D := D) (ci := 4) (v := .int (nI py)) (C := RX4) (T := TX4) (N := 18) hx hb hts hi4 hown hK hP 0 rfl rfl 9 (by decide) (hts (.fieldLink RX4 99 "PairedChannelsModel" "pathMany" "I") (List.mem_of_getElem? (i := 3) (by decide +kernel))) (fun _ h9 => h9) rfl dX4_goesOn_66 ?_
      refine lv_aload_n hx hb dX4_goesOn_69 rfl (lv_at hl 2 rfl) ?_
      refine va_get (D := D) (ci := 4) (v := .ref m6) (C := RX4) (T := TX4) (N := 18) hx hb hts hi4 hown hK hP 0 rfl rfl 8 (by decide) (hts (.fieldLink RX4 25 "PairedChannelsModel" "penalties" "[I") (List.mem_of_getElem? (i := 5) (by decide +kernel))) (fun _ h9 => h9) rfl dX4_goesOn_70 ?_
      refine lv_iload_n hx hb dX4_goesOn_73 rfl (lv_at hl 3 rfl) ?_
      refine wa_iald hx hb hK hP 4 0 rfl rfl (t) rfl (by omega) (by decide) dX4_goesOn_74 ?_
      refine lv_iload hx hb dX4_goesOn_75 (lv_at hl 0 rfl) ?_
      refine lv_if_eq (tgt := 88) hx hb dX4_goesOn_77 (by decide) (fun c7 => ?_) (fun c7 => ?_)
      · skip
        have c7 : 1 = 0 := (nI_eq (a := 1) (b := 0) (by omega) (by omega)).mp c7
        omega
      · skip
        have c7 : ¬ 1 = 0 := fun h9 => c7 ((nI_eq (a := 1) (b := 0) (by omega) (by omega)).mpr h9)
        refine lv_iload hx hb dX4_goesOn_80 (lv_at hl 1 rfl) ?_
        refine gR_i (va_runS (As := [.int (hea n vf pl (fb t))]) (rest := [.int (fp t), .int (nI py), .ref m8]) ⟨hx, hb, hml, hown, hts⟩ (c_X4_size l D K (hea n vf pl (fb t)) ) (va_cwS 1 hts gX4_goesOn_X4_size rfl rfl rfl (by decide +kernel) ⟨Nat.le_of_ble_eq_true rfl, Nat.le_of_ble_eq_true rfl⟩) (gR_pre hE hS hK hP [] rfl) rfl rfl hl.1 rfl (lv_room (Nat.le_of_ble_eq_true rfl)) dX4_goesOn_82 ⟨Nat.le_of_ble_eq_true rfl, Nat.le_of_ble_eq_true rfl⟩) hS hP (fun rv9 H locs h8 hP hS => ?_)
        have h8 : rv9 = absI (hea n vf pl (fb t)) := h8
        subst h8
        refine lv_goto (tgt := 89) hx hb dX4_goesOn_85 (by decide) ?_
        refine lv_iadd hx hb dX4_goesOn_89 ?_
        refine lv_eqi ((fp t + pnB bt (hea n vf pl (fb t)))) (congrArg (fun z => _ + z) (by first | exact pnB_a c14 c19 | exact pnB_b c14 c19 | exact pnB_c c14 c32 | exact pnB_d c14 c32)) ?_
        refine wa_iast (x := (fp t + pnB bt (hea n vf pl (fb t)))) hx hb hK hP hD hS 6 0 rfl rfl (py) rfl (by omega) (by decide) dX4_goesOn_90 (fun H locs hP hD hS => ?_)
        have hP : va_P D vwCl [(m0, .inr (4, [.int th, .ref m1, .ref m2, .ref m3, .int (nI sy), .ref m4, .int (nI ly), .ref m5, .ref m6, .int (nI py), .ref m7, .ref m8, .ref m9, .int (nI ay), .int (if iw = true then 1 else 0), .ref m10, .int (nI ty), .long hy])), (m1, .inl (K 0, 22, .inl (mst n mask vf sf))), (m9, .inl (K 0, 16, .inl u1)), (m5, .inl (K 0, 8, .inl fb)), (m6, .inl (K 0, 8, .inl fp)), (m7, .inl (K 0, 8, .inl (upd gb py (fb t ||| (bt <<< (nI pl &&& 31)))))), (m8, .inl (K 0, 8, .inl (upd gp py (fp t + pnB bt (hea n vf pl (fb t))))))] _ := hP
        have hD : va_D A [(m0, .inr (4, [.int th, .ref m1, .ref m2, .ref m3, .int (nI sy), .ref m4, .int (nI ly), .ref m5, .ref m6, .int (nI py), .ref m7, .ref m8, .ref m9, .int (nI ay), .int (if iw = true then 1 else 0), .ref m10, .int (nI ty), .long hy])), (m1, .inl (K 0, 22, .inl (mst n mask vf sf))), (m9, .inl (K 0, 16, .inl u1)), (m5, .inl (K 0, 8, .inl fb)), (m6, .inl (K 0, 8, .inl fp)), (m7, .inl (K 0, 8, .inl (upd gb py (fb t ||| (bt <<< (nI pl &&& 31)))))), (m8, .inl (K 0, 8, .inl (upd gp py (fp t + pnB bt (hea n vf pl (fb t))))))] := hD
        refine lv_aload_n hx hb dX4_goesOn_91 rfl (lv_at hl 2 rfl) ?_
        refine lv_dup hx hb dX4_goesOn_92 rfl ?_
        refine va_get (D := D) (ci := 4) (v := .int (nI py)) (C := RX4) (T := TX4) (N := 18) hx hb hts hi4 hown hK hP 0 rfl rfl 9 (by decide) (hts (.fieldLink RX4 99 "PairedChannelsModel" "pathMany" "I") (List.mem_of_getElem? (i := 3) (by decide +kernel))) (fun _ h9 => h9) rfl dX4_goesOn_93 ?_
        refine lv_iconst (v := 1) hx hb dX4_goesOn_96 (by decide) ?_
        refine lv_iadd hx hb dX4_goesOn_97 ?_
        refine lv_eqi (nI (py + 1)) (nI_add py 1) ?_
        refine va_put (D := D) (ci := 4) (v := .int (nI (py + 1))) (ty := .int) (C := RX4) (T := TX4) (N := 18) hx hb hts hi4 tyX4 tyX4_ok nmX4 hown hK hP hD hS 0 rfl rfl 9 (by decide) (hts (.fieldLink RX4 99 "PairedChannelsModel" "pathMany" "I") (List.mem_of_getElem? (i := 3) (by decide +kernel))) (fun _ h9 => h9) rfl (by decide +kernel) (rfl) (rfl) (Nat.le_of_ble_eq_true rfl) dX4_goesOn_98 (fun H locs hP hD hS => ?_)
        have hP : va_P D vwCl [(m0, .inr (4, [.int th, .ref m1, .ref m2, .ref m3, .int (nI sy), .ref m4, .int (nI ly), .ref m5, .ref m6, .int (nI (py + 1)), .ref m7, .ref m8, .ref m9, .int (nI ay), .int (if iw = true then 1 else 0), .ref m10, .int (nI ty), .long hy])), (m1, .inl (K 0, 22, .inl (mst n mask vf sf))), (m9, .inl (K 0, 16, .inl u1)), (m5, .inl (K 0, 8, .inl fb)), (m6, .inl (K 0, 8, .inl fp)), (m7, .inl (K 0, 8, .inl (upd gb py (fb t ||| (bt <<< (nI pl &&& 31)))))), (m8, .inl (K 0, 8, .inl (upd gp py (fp t + pnB bt (hea n vf pl (fb t))))))] _ := hP
        have hD : va_D A [(m0, .inr (4, [.int th, .ref m1, .ref m2, .ref m3, .int (nI sy), .ref m4, .int (nI ly), .ref m5, .ref m6, .int (nI (py + 1)), .ref m7, .ref m8, .ref m9, .int (nI ay), .int (if iw = true then 1 else 0), .ref m10, .int (nI ty), .long hy])), (m1, .inl (K 0, 22, .inl (mst n mask vf sf))), (m9, .inl (K 0, 16, .inl u1)), (m5, .inl (K 0, 8, .inl fb)), (m6, .inl (K 0, 8, .inl fp)), (m7, .inl (K 0, 8, .inl (upd gb py (fb t ||| (bt <<< (nI pl &&& 31)))))), (m8, .inl (K 0, 8, .inl (upd gp py (fp t + pnB bt (hea n vf pl (fb t))))))] := hD
        exact gW_vret u1 hx hb hr hlk hK hP hD hS (trivial) dX4_goesOn_101
  · skip
    refine lv_iload hx hb dX4_goesOn_17 (lv_at hl 0 rfl) ?_
    refine lv_if_ge (tgt := 26) hx hb dX4_goesOn_19 (by decide) (fun c19 => ?_) (fun c19 => ?_)
    · skip
      refine lv_iconst (v := 0) hx hb dX4_goesOn_26 (by decide) ?_
      refine lv_goto (tgt := 40) hx hb dX4_goesOn_27 (by decide) ?_
      refine lv_istore (lv' := [(5, .int 0), (4, .int (hea n vf pl (fb t))), (0, .ref m0), (1, .int (nI t)), (2, .int (nI pl)), (3, .int bt)]) hx hb dX4_goesOn_40 hl (by decide) rfl (fun ls hl => ?_)
      refine lv_aload_n hx hb dX4_goesOn_42 rfl (lv_at hl 2 rfl) ?_
      refine va_get (D := D) (ci := 4) (v := .ref m7) (C := RX4) (T := TX4) (N := 18) hx hb hts hi4 hown hK hP 0 rfl rfl 10 (by decide) (hts (.fieldLink RX4 28 "PairedChannelsModel" "newBits" "[I") (List.mem_of_getElem? (i := 2) (by decide +kernel))) (fun _ h9 => h9) rfl dX4_goesOn_43 ?_
      refine lv_aload_n hx hb dX4_goesOn_46 rfl (lv_at hl 2 rfl) ?_
      refine va_get (D := D) (ci := 4) (v := .int (nI py)) (C := RX4) (T := TX4) (N := 18) hx hb hts hi4 hown hK hP 0 rfl rfl 9 (by decide) (hts (.fieldLink RX4 99 "PairedChannelsModel" "pathMany" "I") (List.mem_of_getElem? (i := 3) (by decide +kernel))) (fun _ h9 => h9) rfl dX4_goesOn_47 ?_
      refine lv_aload_n hx hb dX4_goesOn_50 rfl (lv_at hl 2 rfl) ?_
      refine va_get (D := D) (ci := 4) (v := .ref m5) (C := RX4) (T := TX4) (N := 18) hx hb hts hi4 hown hK hP 0 rfl rfl 7 (by decide) (hts (.fieldLink RX4 22 "PairedChannelsModel" "bits" "[I") (List.mem_of_getElem? (i := 1) (by decide +kernel))) (fun _ h9 => h9) rfl dX4_goesOn_51 ?_
      refine lv_iload_n hx hb dX4_goesOn_54 rfl (lv_at hl 3 rfl) ?_
      refine wa_iald hx hb hK hP 3 0 rfl rfl (t) rfl (by omega) (by decide) dX4_goesOn_55 ?_
      refine lv_iload_n hx hb dX4_goesOn_56 rfl (lv_at hl 5 rfl) ?_
      refine lv_iload_n hx hb dX4_goesOn_57 rfl (lv_at hl 4 rfl) ?_
      refine lv_ishl hx hb dX4_goesOn_58 ?_
      refine lv_ior hx hb dX4_goesOn_59 ?_
      refine lv_eqi ((fb t ||| (bt <<< (nI pl &&& 31)))) (rfl) ?_
      refine wa_iast (x := (fb t ||| (bt <<< (nI pl &&& 31)))) hx hb hK hP hD hS 5 0 rfl rfl (py) rfl (by omega) (by decide) dX4_goesOn_60 (fun H locs hP hD hS => ?_)
      have hP : va_P D vwCl [(m0, .inr (4, [.int th, .ref m1, .ref m2, .ref m3, .int (nI sy), .ref m4, .int (nI ly), .ref m5, .ref m6, .int (nI py), .ref m7, .ref m8, .ref m9, .int (nI ay), .int (if iw = true then 1 else 0), .ref m10, .int (nI ty), .long hy])), (m1, .inl (K 0, 22, .inl (mst n mask vf sf))), (m9, .inl (K 0, 16, .inl u1)), (m5, .inl (K 0, 8, .inl fb)), (m6, .inl (K 0, 8, .inl fp)), (m7, .inl (K 0, 8, .inl (upd gb py (fb t ||| (bt <<< (nI pl &&& 31)))))), (m8, .inl (K 0, 8, .inl gp))] _ := hP
      have hD : va_D A [(m0, .inr (4, [.int th, .ref m1, .ref m2, .ref m3, .int (nI sy), .ref m4, .int (nI ly), .ref m5, .ref m6, .int (nI py), .ref m7, .ref m8, .ref m9, .int (nI ay), .int (if iw = true then 1 else 0), .ref m10, .int (nI ty), .long hy])), (m1, .inl (K 0, 22, .inl (mst n mask vf sf))), (m9, .inl (K 0, 16, .inl u1)), (m5, .inl (K 0, 8, .inl fb)), (m6, .inl (K 0, 8, .inl fp)), (m7, .inl (K 0, 8, .inl (upd gb py (fb t ||| (bt <<< (nI pl &&& 31)))))), (m8, .inl (K 0, 8, .inl gp))] := hD
      refine lv_aload_n hx hb dX4_goesOn_61 rfl (lv_at hl 2 rfl) ?_
      refine va_get (D := D) (ci := 4) (v := .ref m8) (C := RX4) (T := TX4) (N := 18) hx hb hts hi4 hown hK hP 0 rfl rfl 11 (by decide) (hts (.fieldLink RX4 31 "PairedChannelsModel" "newPenalties" "[I") (List.mem_of_getElem? (i := 4) (by decide +kernel))) (fun _ h9 => h9) rfl dX4_goesOn_62 ?_
      refine lv_aload_n hx hb dX4_goesOn_65 rfl (lv_at hl 2 rfl) ?_
      refine va_get (D := D) (ci := 4) (v := .int (nI py)) (C := RX4) (T := TX4) (N := 18) hx hb hts hi4 hown hK hP 0 rfl rfl 9 (by decide) (hts (.fieldLink RX4 99 "PairedChannelsModel" "pathMany" "I") (List.mem_of_getElem? (i := 3) (by decide +kernel))) (fun _ h9 => h9) rfl dX4_goesOn_66 ?_
      refine lv_aload_n hx hb dX4_goesOn_69 rfl (lv_at hl 2 rfl) ?_
      refine va_get (D := D) (ci := 4) (v := .ref m6) (C := RX4) (T := TX4) (N := 18) hx hb hts hi4 hown hK hP 0 rfl rfl 8 (by decide) (hts (.fieldLink RX4 25 "PairedChannelsModel" "penalties" "[I") (List.mem_of_getElem? (i := 5) (by decide +kernel))) (fun _ h9 => h9) rfl dX4_goesOn_70 ?_
      refine lv_iload_n hx hb dX4_goesOn_73 rfl (lv_at hl 3 rfl) ?_
      refine wa_iald hx hb hK hP 4 0 rfl rfl (t) rfl (by omega) (by decide) dX4_goesOn_74 ?_
      refine lv_iload hx hb dX4_goesOn_75 (lv_at hl 0 rfl) ?_
      refine lv_if_eq (tgt := 88) hx hb dX4_goesOn_77 (by decide) (fun c11 => ?_) (fun c11 => ?_)
      · skip
        have c11 : 0 = 0 := (nI_eq (a := 0) (b := 0) (by omega) (by omega)).mp c11
        refine lv_iconst (v := 0) hx hb dX4_goesOn_88 (by decide) ?_
        refine lv_iadd hx hb dX4_goesOn_89 ?_
        refine lv_eqi ((fp t + pnB bt (hea n vf pl (fb t)))) (congrArg (fun z => _ + z) (by first | exact pnB_a c14 c19 | exact pnB_b c14 c19 | exact pnB_c c14 c32 | exact pnB_d c14 c32)) ?_
        refine wa_iast (x := (fp t + pnB bt (hea n vf pl (fb t)))) hx hb hK hP hD hS 6 0 rfl rfl (py) rfl (by omega) (by decide) dX4_goesOn_90 (fun H locs hP hD hS => ?_)
        have hP : va_P D vwCl [(m0, .inr (4, [.int th, .ref m1, .ref m2, .ref m3, .int (nI sy), .ref m4, .int (nI ly), .ref m5, .ref m6, .int (nI py), .ref m7, .ref m8, .ref m9, .int (nI ay), .int (if iw = true then 1 else 0), .ref m10, .int (nI ty), .long hy])), (m1, .inl (K 0, 22, .inl (mst n mask vf sf))), (m9, .inl (K 0, 16, .inl u1)), (m5, .inl (K 0, 8, .inl fb)), (m6, .inl (K 0, 8, .inl fp)), (m7, .inl (K 0, 8, .inl (upd gb py (fb t ||| (bt <<< (nI pl &&& 31)))))), (m8, .inl (K 0, 8, .inl (upd gp py (fp t + pnB bt (hea n vf pl (fb t))))))] _ := hP
        have hD : va_D A [(m0, .inr (4, [.int th, .ref m1, .ref m2, .ref m3, .int (nI sy), .ref m4, .int (nI ly), .ref m5, .ref m6, .int (nI py), .ref m7, .ref m8, .ref m9, .int (nI ay), .int (if iw = true then 1 else 0), .ref m10, .int (nI ty), .long hy])), (m1, .inl (K 0, 22, .inl (mst n mask vf sf))), (m9, .inl (K 0, 16, .inl u1)), (m5, .inl (K 0, 8, .inl fb)), (m6, .inl (K 0, 8, .inl fp)), (m7, .inl (K 0, 8, .inl (upd gb py (fb t ||| (bt <<< (nI pl &&& 31)))))), (m8, .inl (K 0, 8, .inl (upd gp py (fp t + pnB bt (hea n vf pl (fb t))))))] := hD
        refine lv_aload_n hx hb dX4_goesOn_91 rfl (lv_at hl 2 rfl) ?_
        refine lv_dup hx hb dX4_goesOn_92 rfl ?_
        refine va_get (D := D) (ci := 4) (v := .int (nI py)) (C := RX4) (T := TX4) (N := 18) hx hb hts hi4 hown hK hP 0 rfl rfl 9 (by decide) (hts (.fieldLink RX4 99 "PairedChannelsModel" "pathMany" "I") (List.mem_of_getElem? (i := 3) (by decide +kernel))) (fun _ h9 => h9) rfl dX4_goesOn_93 ?_
        refine lv_iconst (v := 1) hx hb dX4_goesOn_96 (by decide) ?_
        refine lv_iadd hx hb dX4_goesOn_97 ?_
        refine lv_eqi (nI (py + 1)) (nI_add py 1) ?_
        refine va_put (D := D) (ci := 4) (v := .int (nI (py + 1))) (ty := .int) (C := RX4) (T := TX4) (N := 18) hx hb hts hi4 tyX4 tyX4_ok nmX4 hown hK hP hD hS 0 rfl rfl 9 (by decide) (hts (.fieldLink RX4 99 "PairedChannelsModel" "pathMany" "I") (List.mem_of_getElem? (i := 3) (by decide +kernel))) (fun _ h9 => h9) rfl (by decide +kernel) (rfl) (rfl) (Nat.le_of_ble_eq_true rfl) dX4_goesOn_98 (fun H locs hP hD hS => ?_)
        have hP : va_P D vwCl [(m0, .inr (4, [.int th, .ref m1, .ref m2, .ref m3, .int (nI sy), .ref m4, .int (nI ly), .ref m5, .ref m6, .int (nI (py + 1)), .ref m7, .ref m8, .ref m9, .int (nI ay), .int (if iw = true then 1 else 0), .ref m10, .int (nI ty), .long hy])), (m1, .inl (K 0, 22, .inl (mst n mask vf sf))), (m9, .inl (K 0, 16, .inl u1)), (m5, .inl (K 0, 8, .inl fb)), (m6, .inl (K 0, 8, .inl fp)), (m7, .inl (K 0, 8, .inl (upd gb py (fb t ||| (bt <<< (nI pl &&& 31)))))), (m8, .inl (K 0, 8, .inl (upd gp py (fp t + pnB bt (hea n vf pl (fb t))))))] _ := hP
        have hD : va_D A [(m0, .inr (4, [.int th, .ref m1, .ref m2, .ref m3, .int (nI sy), .ref m4, .int (nI ly), .ref m5, .ref m6, .int (nI (py + 1)), .ref m7, .ref m8, .ref m9, .int (nI ay), .int (if iw = true then 1 else 0), .ref m10, .int (nI ty), .long hy])), (m1, .inl (K 0, 22, .inl (mst n mask vf sf))), (m9, .inl (K 0, 16, .inl u1)), (m5, .inl (K 0, 8, .inl fb)), (m6, .inl (K 0, 8, .inl fp)), (m7, .inl (K 0, 8, .inl (upd gb py (fb t ||| (bt <<< (nI pl &&& 31)))))), (m8, .inl (K 0, 8, .inl (upd gp py (fp t + pnB bt (hea n vf pl (fb t))))))] := hD
        exact gW_vret u1 hx hb hr hlk hK hP hD hS (trivial) dX4_goesOn_101
      · skip
        have c11 : ¬ 0 = 0 := fun h9 => c11 ((nI_eq (a := 0) (b := 0) (by omega) (by omega)).mpr h9)
        omega
    · skip
      refine lv_iconst (v := 1) hx hb dX4_goesOn_22 (by decide) ?_
      refine lv_goto (tgt := 40) hx hb dX4_goesOn_23 (by decide) ?_
      refine lv_istore (lv' := [(5, .int 1), (4, .int (hea n vf pl (fb t))), (0, .ref m0), (1, .int (nI t)), (2, .int (nI pl)), (3, .int bt)]) hx hb dX4_goesOn_40 hl (by decide) rfl (fun ls hl => ?_)
      refine lv_aload_n hx hb dX4_goesOn_42 rfl (lv_at hl 2 rfl) ?_
      refine va_get (D := D) (ci := 4) (v := .ref m7) (C := RX4) (T := TX4) (N := 18) hx hb hts hi4 hown hK hP 0 rfl rfl 10 (by decide) (hts (.fieldLink RX4 28 "PairedChannelsModel" "newBits" "[I") (List.mem_of_getElem? (i := 2) (by decide +kernel))) (fun _ h9 => h9) rfl dX4_goesOn_43 ?_
      refine lv_aload_n hx hb dX4_goesOn_46 rfl (lv_at hl 2 rfl) ?_
      refine va_get (D := D) (ci := 4) (v := .int (nI py)) (C := RX4) (T := TX4) (N := 18) hx hb hts hi4 hown hK hP 0 rfl rfl 9 (by decide) (hts (.fieldLink RX4 99 "PairedChannelsModel" "pathMany" "I") (List.mem_of_getElem? (i := 3) (by decide +kernel))) (fun _ h9 => h9) rfl dX4_goesOn_47 ?_
      refine lv_aload_n hx hb dX4_goesOn_50 rfl (lv_at hl 2 rfl) ?_
      refine va_get (D := D) (ci := 4) (v := .ref m5) (C := RX4) (T := TX4) (N := 18) hx hb hts hi4 hown hK hP 0 rfl rfl 7 (by decide) (hts (.fieldLink RX4 22 "PairedChannelsModel" "bits" "[I") (List.mem_of_getElem? (i := 1) (by decide +kernel))) (fun _ h9 => h9) rfl dX4_goesOn_51 ?_
      refine lv_iload_n hx hb dX4_goesOn_54 rfl (lv_at hl 3 rfl) ?_
      refine wa_iald hx hb hK hP 3 0 rfl rfl (t) rfl (by omega) (by decide) dX4_goesOn_55 ?_
      refine lv_iload_n hx hb dX4_goesOn_56 rfl (lv_at hl 5 rfl) ?_
      refine lv_iload_n hx hb dX4_goesOn_57 rfl (lv_at hl 4 rfl) ?_
      refine lv_ishl hx hb dX4_goesOn_58 ?_
      refine lv_ior hx hb dX4_goesOn_59 ?_
      refine lv_eqi ((fb t ||| (bt <<< (nI pl &&& 31)))) (rfl) ?_
      refine wa_iast (x := (fb t ||| (bt <<< (nI pl &&& 31)))) hx hb hK hP hD hS 5 0 rfl rfl (py) rfl (by omega) (by decide) dX4_goesOn_60 (fun H locs hP hD hS => ?_)
      have hP : va_P D vwCl [(m0, .inr (4, [.int th, .ref m1, .ref m2, .ref m3, .int (nI sy), .ref m4, .int (nI ly), .ref m5, .ref m6, .int (nI py), .ref m7, .ref m8, .ref m9, .int (nI ay), .int (if iw = true then 1 else 0), .ref m10, .int (nI ty), .long hy])), (m1, .inl (K 0, 22, .inl (mst n mask vf sf))), (m9, .inl (K 0, 16, .inl u1)), (m5, .inl (K 0, 8, .inl fb)), (m6, .inl (K 0, 8, .inl fp)), (m7, .inl (K 0, 8, .inl (upd gb py (fb t ||| (bt <<< (nI pl &&& 31)))))), (m8, .inl (K 0, 8, .inl gp))] _ := hP
      have hD : va_D A [(m0, .inr (4, [.int th, .ref m1, .ref m2, .ref m3, .int (nI sy), .ref m4, .int (nI ly), .ref m5, .ref m6, .int (nI py), .ref m7, .ref m8, .ref m9, .int (nI ay), .int (if iw = true then 1 else 0), .ref m10, .int (nI ty), .long hy])), (m1, .inl (K 0, 22, .inl (mst n mask vf sf))), (m9, .inl (K 0, 16, .inl u1)), (m5, .inl (K 0, 8, .inl fb)), (m6, .inl (K 0, 8, .inl fp)), (m7, .inl (K 0, 8, .inl (upd gb py (fb t ||| (bt <<< (nI pl &&& 31)))))), (m8, .inl (K 0, 8, .inl gp))] := hD
      refine lv_aload_n hx hb dX4_goesOn_61 rfl (lv_at hl 2 rfl) ?_
      refine va_get (D := D) (ci := 4) (v := .ref m8) (C := RX4) (T := TX4) (N := 18) hx hb hts hi4 hown hK hP 0 rfl rfl 11 (by decide) (hts (.fieldLink RX4 31 "PairedChannelsModel" "newPenalties" "[I") (List.mem_of_getElem? (i := 4) (by decide +kernel))) (fun _ h9 => h9) rfl dX4_goesOn_62 ?_
      refine lv_aload_n hx hb dX4_goesOn_65 rfl (lv_at hl 2 rfl) ?_
      refine va_get (D := D) (ci := 4) (v := .int (nI py)) (C := RX4) (T := TX4) (N := 18) hx hb hts hi4 hown hK hP 0 rfl rfl 9 (by decide) (hts (.fieldLink RX4 99 "PairedChannelsModel" "pathMany" "I") (List.mem_of_getElem? (i := 3) (by decide +kernel))) (fun _ h9 => h9) rfl dX4_goesOn_66 ?_
      refine lv_aload_n hx hb dX4_goesOn_69 rfl (lv_at hl 2 rfl) ?_
      refine va_get (D := D) (ci := 4) (v := .ref m6) (C := RX4) (T := TX4) (N := 18) hx hb hts hi4 hown hK hP 0 rfl rfl 8 (by decide) (hts (.fieldLink RX4 25 "PairedChannelsModel" "penalties" "[I") (List.mem_of_getElem? (i := 5) (by decide +kernel))) (fun _ h9 => h9) rfl dX4_goesOn_70 ?_
      refine lv_iload_n hx hb dX4_goesOn_73 rfl (lv_at hl 3 rfl) ?_
      refine wa_iald hx hb hK hP 4 0 rfl rfl (t) rfl (by omega) (by decide) dX4_goesOn_74 ?_
      refine lv_iload hx hb dX4_goesOn_75 (lv_at hl 0 rfl) ?_
      refine lv_if_eq (tgt := 88) hx hb dX4_goesOn_77 (by decide) (fun c12 => ?_) (fun c12 => ?_)
      · skip
        have c12 : 1 = 0 := (nI_eq (a := 1) (b := 0) (by omega) (by omega)).mp c12
        omega
      · skip
        have c12 : ¬ 1 = 0 := fun h9 => c12 ((nI_eq (a := 1) (b := 0) (by omega) (by omega)).mpr h9)
        refine lv_iload hx hb dX4_goesOn_80 (lv_at hl 1 rfl) ?_
        refine gR_i (va_runS (As := [.int (hea n vf pl (fb t))]) (rest := [.int (fp t), .int (nI py), .ref m8]) ⟨hx, hb, hml, hown, hts⟩ (c_X4_size l D K (hea n vf pl (fb t)) ) (va_cwS 1 hts gX4_goesOn_X4_size rfl rfl rfl (by decide +kernel) ⟨Nat.le_of_ble_eq_true rfl, Nat.le_of_ble_eq_true rfl⟩) (gR_pre hE hS hK hP [] rfl) rfl rfl hl.1 rfl (lv_room (Nat.le_of_ble_eq_true rfl)) dX4_goesOn_82 ⟨Nat.le_of_ble_eq_true rfl, Nat.le_of_ble_eq_true rfl⟩) hS hP (fun rv14 H locs h13 hP hS => ?_)
        have h13 : rv14 = absI (hea n vf pl (fb t)) := h13
        subst h13
        refine lv_goto (tgt := 89) hx hb dX4_goesOn_85 (by decide) ?_
        refine lv_iadd hx hb dX4_goesOn_89 ?_
        refine lv_eqi ((fp t + pnB bt (hea n vf pl (fb t)))) (congrArg (fun z => _ + z) (by first | exact pnB_a c14 c19 | exact pnB_b c14 c19 | exact pnB_c c14 c32 | exact pnB_d c14 c32)) ?_
        refine wa_iast (x := (fp t + pnB bt (hea n vf pl (fb t)))) hx hb hK hP hD hS 6 0 rfl rfl (py) rfl (by omega) (by decide) dX4_goesOn_90 (fun H locs hP hD hS => ?_)
        have hP : va_P D vwCl [(m0, .inr (4, [.int th, .ref m1, .ref m2, .ref m3, .int (nI sy), .ref m4, .int (nI ly), .ref m5, .ref m6, .int (nI py), .ref m7, .ref m8, .ref m9, .int (nI ay), .int (if iw = true then 1 else 0), .ref m10, .int (nI ty), .long hy])), (m1, .inl (K 0, 22, .inl (mst n mask vf sf))), (m9, .inl (K 0, 16, .inl u1)), (m5, .inl (K 0, 8, .inl fb)), (m6, .inl (K 0, 8, .inl fp)), (m7, .inl (K 0, 8, .inl (upd gb py (fb t ||| (bt <<< (nI pl &&& 31)))))), (m8, .inl (K 0, 8, .inl (upd gp py (fp t + pnB bt (hea n vf pl (fb t))))))] _ := hP
        have hD : va_D A [(m0, .inr (4, [.int th, .ref m1, .ref m2, .ref m3, .int (nI sy), .ref m4, .int (nI ly), .ref m5, .ref m6, .int (nI py), .ref m7, .ref m8, .ref m9, .int (nI ay), .int (if iw = true then 1 else 0), .ref m10, .int (nI ty), .long hy])), (m1, .inl (K 0, 22, .inl (mst n mask vf sf))), (m9, .inl (K 0, 16, .inl u1)), (m5, .inl (K 0, 8, .inl fb)), (m6, .inl (K 0, 8, .inl fp)), (m7, .inl (K 0, 8, .inl (upd gb py (fb t ||| (bt <<< (nI pl &&& 31)))))), (m8, .inl (K 0, 8, .inl (upd gp py (fp t + pnB bt (hea n vf pl (fb t))))))] := hD
        refine lv_aload_n hx hb dX4_goesOn_91 rfl (lv_at hl 2 rfl) ?_
        refine lv_dup hx hb dX4_goesOn_92 rfl ?_
        refine va_get (D := D) (ci := 4) (v := .int (nI py)) (C := RX4) (T := TX4) (N := 18) hx hb hts hi4 hown hK hP 0 rfl rfl 9 (by decide) (hts (.fieldLink RX4 99 "PairedChannelsModel" "pathMany" "I") (List.mem_of_getElem? (i := 3) (by decide +kernel))) (fun _ h9 => h9) rfl dX4_goesOn_93 ?_
        refine lv_iconst (v := 1) hx hb dX4_goesOn_96 (by decide) ?_
        refine lv_iadd hx hb dX4_goesOn_97 ?_
        refine lv_eqi (nI (py + 1)) (nI_add py 1) ?_
        refine va_put (D := D) (ci := 4) (v := .int (nI (py + 1))) (ty := .int) (C := RX4) (T := TX4) (N := 18) hx hb hts hi4 tyX4 tyX4_ok nmX4 hown hK hP hD hS 0 rfl rfl 9 (by decide) (hts (.fieldLink RX4 99 "PairedChannelsModel" "pathMany" "I") (List.mem_of_getElem? (i := 3) (by decide +kernel))) (fun _ h9 => h9) rfl (by decide +kernel) (rfl) (rfl) (Nat.le_of_ble_eq_true rfl) dX4_goesOn_98 (fun H locs hP hD hS => ?_)
        have hP : va_P D vwCl [(m0, .inr (4, [.int th, .ref m1, .ref m2, .ref m3, .int (nI sy), .ref m4, .int (nI ly), .ref m5, .ref m6, .int (nI (py + 1)), .ref m7, .ref m8, .ref m9, .int (nI ay), .int (if iw = true then 1 else 0), .ref m10, .int (nI ty), .long hy])), (m1, .inl (K 0, 22, .inl (mst n mask vf sf))), (m9, .inl (K 0, 16, .inl u1)), (m5, .inl (K 0, 8, .inl fb)), (m6, .inl (K 0, 8, .inl fp)), (m7, .inl (K 0, 8, .inl (upd gb py (fb t ||| (bt <<< (nI pl &&& 31)))))), (m8, .inl (K 0, 8, .inl (upd gp py (fp t + pnB bt (hea n vf pl (fb t))))))] _ := hP
        have hD : va_D A [(m0, .inr (4, [.int th, .ref m1, .ref m2, .ref m3, .int (nI sy), .ref m4, .int (nI ly), .ref m5, .ref m6, .int (nI (py + 1)), .ref m7, .ref m8, .ref m9, .int (nI ay), .int (if iw = true then 1 else 0), .ref m10, .int (nI ty), .long hy])), (m1, .inl (K 0, 22, .inl (mst n mask vf sf))), (m9, .inl (K 0, 16, .inl u1)), (m5, .inl (K 0, 8, .inl fb)), (m6, .inl (K 0, 8, .inl fp)), (m7, .inl (K 0, 8, .inl (upd gb py (fb t ||| (bt <<< (nI pl &&& 31)))))), (m8, .inl (K 0, 8, .inl (upd gp py (fp t + pnB bt (hea n vf pl (fb t))))))] := hD
        exact gW_vret u1 hx hb hr hlk hK hP hD hS (trivial) dX4_goesOn_101
