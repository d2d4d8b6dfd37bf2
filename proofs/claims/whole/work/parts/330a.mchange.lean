set_option maxHeartbeats 4000000 in
set_option maxRecDepth 100000 in
theorem c_X4_saves (l : Launch) (D : va_G) (K : Nat → ClassId) (m0 : Nat) (m1 : Nat) (m2 : Nat) (m3 : Nat) (m4 : Nat) (m5 : Nat) (m6 : Nat) (m7 : Nat) (m8 : Nat) (m9 : Nat) (m10 : Nat) (th : Int32) (sy : Nat) (ly : Nat) (py : Nat) (ay : Nat) (iw : Bool) (ty : Nat) (hy : Int64) (n : Nat) (mask : Int32) (vf : Nat → Int32) (sf : Nat → Int32) (z : Nat → Wd) (hsy : sy ≤ 6) : MWv l yX4_saves wsX4_saves ({ frames := 0, cells := 0, slots := 0, locals := 0 } : Room) D (gTy K) [.ref m0] [(m0, .inr (4, [.int th, .ref m1, .ref m2, .ref m3, .int (nI sy), .ref m4, .int (nI ly), .ref m5, .ref m6, .int (nI py), .ref m7, .ref m8, .ref m9, .int (nI ay), .int (if iw = true then 1 else 0), .ref m10, .int (nI ty), .long hy])), (m1, .inl (K 0, 22, .inl (mst n mask vf sf))), (m3, .inl (K 0, 132, .inl (msv z)))] (fun (u : Unit) => [(m0, .inr (4, [.int th, .ref m1, .ref m2, .ref m3, .int (nI (svC sy)), .ref m4, .int (nI ly), .ref m5, .ref m6, .int (nI py), .ref m7, .ref m8, .ref m9, .int (nI ay), .int (if iw = true then 1 else 0), .ref m10, .int (nI ty), .long hy])), (m1, .inl (K 0, 22, .inl (mst n mask vf sf))), (m3, .inl (K 0, 132, .inl (msv (mzS z sy (n, mask, vf, sf)))))]) (fun (u : Unit) => True) 0 0 := by
  refine g_ofW (Qc := fun A => va_Qv _ (gB D (gTy K) A _) A) (cc := cX4_saves) (maxL := 2) (ret := none) (own := RX4) (by decide) rfl rfl (Nat.le_of_ble_eq_true rfl) ?_
  intro pp ee s mm below meth cc A hfx hnm hK hP hD hE hS hA ls hl
  obtain ⟨hx, hb, hr, hml, hown, hts, hlk⟩ := hfx
  have hl : lv_has ls 2 [(0, .ref m0)] := hl
  have hi4 : ∀ w ∈ u_ws RX4 TX4 18, w ∈ wsX4_saves := fun w h => List.mem_cons_of_mem _ (List.mem_append_right _ (h))
  refine lv_aload_n hx hb dX4_saves_0 rfl (lv_at hl 0 rfl) ?_
  refine va_get (D := D) (ci := 4) (v := .int (nI sy)) (C := RX4) (T := TX4) (N := 18) hx hb hts hi4 hown hK hP 0 rfl rfl 4 (by decide) (hts (.fieldLink RX4 48 "PairedChannelsModel" "savedMany" "I") (List.mem_of_getElem? (i := 1) (by decide +kernel))) (fun _ h9 => h9) rfl dX4_saves_1 ?_
  refine lv_bipush (v := 6) hx hb dX4_saves_4 (by decide) ?_
  refine lv_icmp_ne (tgt := 48) hx hb dX4_saves_6 (by decide) (fun c6 => ?_) (fun c6 => ?_)
  · skip
    have c6 : ¬ sy = 6 := fun h9 => c6 ((nI_eq (a := sy) (b := 6) (by omega) (by omega)).mpr h9)
    refine lv_iconst (v := 0) hx hb dX4_saves_48 (by decide) ?_
    refine lv_istore_n (lv' := [(1, .int 0), (0, .ref m0)]) hx hb dX4_saves_49 rfl hl (by decide) rfl (fun ls hl => ?_)
    refine g_loopW (st := []) (N := 22) (fun t H locs ls => ∃ zf : Nat → Int32, (∀ i, i < 132 → zf i = (if 22 * sy ≤ i ∧ i < 22 * sy + t then mrw (n, mask, vf, sf) (i - 22 * sy) else msv z i)) ∧ va_P D vwCl [(m0, .inr (4, [.int th, .ref m1, .ref m2, .ref m3, .int (nI sy), .ref m4, .int (nI ly), .ref m5, .ref m6, .int (nI py), .ref m7, .ref m8, .ref m9, .int (nI ay), .int (if iw = true then 1 else 0), .ref m10, .int (nI ty), .long hy])), (m1, .inl (K 0, 22, .inl (mst n mask vf sf))), (m3, .inl (K 0, 132, .inl zf))] H ∧ va_D A [(m0, .inr (4, [.int th, .ref m1, .ref m2, .ref m3, .int (nI sy), .ref m4, .int (nI ly), .ref m5, .ref m6, .int (nI py), .ref m7, .ref m8, .ref m9, .int (nI ay), .int (if iw = true then 1 else 0), .ref m10, .int (nI ty), .long hy])), (m1, .inl (K 0, 22, .inl (mst n mask vf sf))), (m3, .inl (K 0, 132, .inl zf))] ∧ va_S A s.heap H locs ∧ lv_has ls 2 [(1, .int (nI t)), (0, .ref m0)]) 0 (Nat.zero_le _) ?_ ?_ ?_
    · intro H locs ls hI
      obtain ⟨zf, h2, hP, hD, hS, hl⟩ := hI
      have h2 : ∀ i, i < 132 → zf i = msv (upW z sy (n, mask, vf, sf)) i := fun i hi => (h2 i hi).trans (msv_up z sy (n, mask, vf, sf) i)
      refine lv_iload_n hx hb dX4_saves_50 rfl (lv_at hl 0 rfl) ?_
      refine lv_bipush (v := 22) hx hb dX4_saves_51 (by decide) ?_
      refine lv_icmp_ge (tgt := 82) hx hb dX4_saves_53 (by decide) (fun c3 => ?_) (fun c3 => ?_)
      · skip
        have c3 : 22 ≤ 22 := (nI_leI (a := 22) (b := 22) (by omega) (by omega)).mp c3
        have hP : va_P D vwCl [(m0, .inr (4, [.int th, .ref m1, .ref m2, .ref m3, .int (nI sy), .ref m4, .int (nI ly), .ref m5, .ref m6, .int (nI py), .ref m7, .ref m8, .ref m9, .int (nI ay), .int (if iw = true then 1 else 0), .ref m10, .int (nI ty), .long hy])), (m1, .inl (K 0, 22, .inl (mst n mask vf sf))), (m3, .inl (K 0, 132, .inl (msv (upW z sy (n, mask, vf, sf)))))] _ := gP_ext hP 2 rfl (h2)
        have hD : va_D A [(m0, .inr (4, [.int th, .ref m1, .ref m2, .ref m3, .int (nI sy), .ref m4, .int (nI ly), .ref m5, .ref m6, .int (nI py), .ref m7, .ref m8, .ref m9, .int (nI ay), .int (if iw = true then 1 else 0), .ref m10, .int (nI ty), .long hy])), (m1, .inl (K 0, 22, .inl (mst n mask vf sf))), (m3, .inl (K 0, 132, .inl (msv (upW z sy (n, mask, vf, sf)))))] := gD_ext hD 2 rfl
        have e4 : (msv (upW z sy (n, mask, vf, sf))) = (msv (mzS z sy (n, mask, vf, sf))) := congrArg msv (mzS_t (by omega))
        rw [e4] at hP hD
        have hP : va_P D vwCl [(m0, .inr (4, [.int th, .ref m1, .ref m2, .ref m3, .int (nI sy), .ref m4, .int (nI ly), .ref m5, .ref m6, .int (nI py), .ref m7, .ref m8, .ref m9, .int (nI ay), .int (if iw = true then 1 else 0), .ref m10, .int (nI ty), .long hy])), (m1, .inl (K 0, 22, .inl (mst n mask vf sf))), (m3, .inl (K 0, 132, .inl (msv (mzS z sy (n, mask, vf, sf)))))] _ := hP
        have hD : va_D A [(m0, .inr (4, [.int th, .ref m1, .ref m2, .ref m3, .int (nI sy), .ref m4, .int (nI ly), .ref m5, .ref m6, .int (nI py), .ref m7, .ref m8, .ref m9, .int (nI ay), .int (if iw = true then 1 else 0), .ref m10, .int (nI ty), .long hy])), (m1, .inl (K 0, 22, .inl (mst n mask vf sf))), (m3, .inl (K 0, 132, .inl (msv (mzS z sy (n, mask, vf, sf)))))] := hD
        refine lv_aload_n hx hb dX4_saves_82 rfl (lv_at hl 1 rfl) ?_
        refine lv_dup hx hb dX4_saves_83 rfl ?_
        refine va_get (D := D) (ci := 4) (v := .int (nI sy)) (C := RX4) (T := TX4) (N := 18) hx hb hts hi4 hown hK hP 0 rfl rfl 4 (by decide) (hts (.fieldLink RX4 48 "PairedChannelsModel" "savedMany" "I") (List.mem_of_getElem? (i := 1) (by decide +kernel))) (fun _ h9 => h9) rfl dX4_saves_84 ?_
        refine lv_iconst (v := 1) hx hb dX4_saves_87 (by decide) ?_
        refine lv_iadd hx hb dX4_saves_88 ?_
        refine lv_eqi (nI (sy + 1)) (nI_add sy 1) ?_
        refine va_put (D := D) (ci := 4) (v := .int (nI (sy + 1))) (ty := .int) (C := RX4) (T := TX4) (N := 18) hx hb hts hi4 tyX4 tyX4_ok nmX4 hown hK hP hD hS 0 rfl rfl 4 (by decide) (hts (.fieldLink RX4 48 "PairedChannelsModel" "savedMany" "I") (List.mem_of_getElem? (i := 1) (by decide +kernel))) (fun _ h9 => h9) rfl (by decide +kernel) (rfl) (rfl) (Nat.le_of_ble_eq_true rfl) dX4_saves_89 (fun H locs hP hD hS => ?_)
        have hP : va_P D vwCl [(m0, .inr (4, [.int th, .ref m1, .ref m2, .ref m3, .int (nI (sy + 1)), .ref m4, .int (nI ly), .ref m5, .ref m6, .int (nI py), .ref m7, .ref m8, .ref m9, .int (nI ay), .int (if iw = true then 1 else 0), .ref m10, .int (nI ty), .long hy])), (m1, .inl (K 0, 22, .inl (mst n mask vf sf))), (m3, .inl (K 0, 132, .inl (msv (mzS z sy (n, mask, vf, sf)))))] _ := hP
        have hD : va_D A [(m0, .inr (4, [.int th, .ref m1, .ref m2, .ref m3, .int (nI (sy + 1)), .ref m4, .int (nI ly), .ref m5, .ref m6, .int (nI py), .ref m7, .ref m8, .ref m9, .int (nI ay), .int (if iw = true then 1 else 0), .ref m10, .int (nI ty), .long hy])), (m1, .inl (K 0, 22, .inl (mst n mask vf sf))), (m3, .inl (K 0, 132, .inl (msv (mzS z sy (n, mask, vf, sf)))))] := hD
        have e5 : (nI (sy + 1)) = (nI (svC sy)) := congrArg nI (svC_t (by omega))
        rw [e5] at hP hD
        have hP : va_P D vwCl [(m0, .inr (4, [.int th, .ref m1, .ref m2, .ref m3, .int (nI (svC sy)), .ref m4, .int (nI ly), .ref m5, .ref m6, .int (nI py), .ref m7, .ref m8, .ref m9, .int (nI ay), .int (if iw = true then 1 else 0), .ref m10, .int (nI ty), .long hy])), (m1, .inl (K 0, 22, .inl (mst n mask vf sf))), (m3, .inl (K 0, 132, .inl (msv (mzS z sy (n, mask, vf, sf)))))] _ := hP
        have hD : va_D A [(m0, .inr (4, [.int th, .ref m1, .ref m2, .ref m3, .int (nI (svC sy)), .ref m4, .int (nI ly), .ref m5, .ref m6, .int (nI py), .ref m7, .ref m8, .ref m9, .int (nI ay), .int (if iw = true then 1 else 0), .ref m10, .int (nI ty), .long hy])), (m1, .inl (K 0, 22, .inl (mst n mask vf sf))), (m3, .inl (K 0, 132, .inl (msv (mzS z sy (n, mask, vf, sf)))))] := hD
        exact gW_vret () hx hb hr hlk hK hP hD hS (trivial) dX4_saves_92
      · skip
        have c3 : ¬ 22 ≤ 22 := fun h9 => c3 ((nI_leI (a := 22) (b := 22) (by omega) (by omega)).mpr h9)
        omega
    · intro t ht ih2 H locs ls hI
      obtain ⟨zf, h2, hP, hD, hS, hl⟩ := hI
      refine lv_iload_n hx hb dX4_saves_50 rfl (lv_at hl 0 rfl) ?_
      refine lv_bipush (v := 22) hx hb dX4_saves_51 (by decide) ?_
      refine lv_icmp_ge (tgt := 82) hx hb dX4_saves_53 (by decide) (fun c6 => ?_) (fun c6 => ?_)
      · skip
        have c6 : 22 ≤ t := (nI_leI (a := 22) (b := t) (by omega) (by omega)).mp c6
        omega
      · skip
        have c6 : ¬ 22 ≤ t := fun h9 => c6 ((nI_leI (a := 22) (b := t) (by omega) (by omega)).mpr h9)
        refine lv_aload_n hx hb dX4_saves_56 rfl (lv_at hl 1 rfl) ?_
        refine va_get (D := D) (ci := 4) (v := .ref m3) (C := RX4) (T := TX4) (N := 18) hx hb hts hi4 hown hK hP 0 rfl rfl 3 (by decide) (hts (.fieldLink RX4 16 "PairedChannelsModel" "saved" "[I") (List.mem_of_getElem? (i := 2) (by decide +kernel))) (fun _ h9 => h9) rfl dX4_saves_57 ?_
        refine lv_bipush (v := 22) hx hb dX4_saves_60 (by decide) ?_
        refine lv_aload_n hx hb dX4_saves_62 rfl (lv_at hl 1 rfl) ?_
        refine va_get (D := D) (ci := 4) (v := .int (nI sy)) (C := RX4) (T := TX4) (N := 18) hx hb hts hi4 hown hK hP 0 rfl rfl 4 (by decide) (hts (.fieldLink RX4 48 "PairedChannelsModel" "savedMany" "I") (List.mem_of_getElem? (i := 1) (by decide +kernel))) (fun _ h9 => h9) rfl dX4_saves_63 ?_
        refine lv_imul hx hb dX4_saves_66 ?_
        refine lv_eqi (nI (22 * sy)) (pk_mul 22 sy) ?_
        refine lv_iload_n hx hb dX4_saves_67 rfl (lv_at hl 0 rfl) ?_
        refine lv_iadd hx hb dX4_saves_68 ?_
        refine lv_eqi (nI (22 * sy + t)) (nI_add (22 * sy) t) ?_
        refine lv_aload_n hx hb dX4_saves_69 rfl (lv_at hl 1 rfl) ?_
        refine va_get (D := D) (ci := 4) (v := .ref m1) (C := RX4) (T := TX4) (N := 18) hx hb hts hi4 hown hK hP 0 rfl rfl 1 (by decide) (hts (.fieldLink RX4 7 "PairedChannelsModel" "s" "[I") (List.mem_of_getElem? (i := 3) (by decide +kernel))) (fun _ h9 => h9) rfl dX4_saves_70 ?_
        refine lv_iload_n hx hb dX4_saves_73 rfl (lv_at hl 0 rfl) ?_
        refine wa_iald hx hb hK hP 1 0 rfl rfl (t) rfl (by omega) (by decide) dX4_saves_74 ?_
        refine wa_iast (x := (mst n mask vf sf) t) hx hb hK hP hD hS 2 0 rfl rfl (22 * sy + t) rfl (by omega) (by decide) dX4_saves_75 (fun H locs hP hD hS => ?_)
        have hP : va_P D vwCl [(m0, .inr (4, [.int th, .ref m1, .ref m2, .ref m3, .int (nI sy), .ref m4, .int (nI ly), .ref m5, .ref m6, .int (nI py), .ref m7, .ref m8, .ref m9, .int (nI ay), .int (if iw = true then 1 else 0), .ref m10, .int (nI ty), .long hy])), (m1, .inl (K 0, 22, .inl (mst n mask vf sf))), (m3, .inl (K 0, 132, .inl (upd zf (22 * sy + t) ((mst n mask vf sf) t))))] _ := hP
        have hD : va_D A [(m0, .inr (4, [.int th, .ref m1, .ref m2, .ref m3, .int (nI sy), .ref m4, .int (nI ly), .ref m5, .ref m6, .int (nI py), .ref m7, .ref m8, .ref m9, .int (nI ay), .int (if iw = true then 1 else 0), .ref m10, .int (nI ty), .long hy])), (m1, .inl (K 0, 22, .inl (mst n mask vf sf))), (m3, .inl (K 0, 132, .inl (upd zf (22 * sy + t) ((mst n mask vf sf) t))))] := hD
        refine lv_iinc (v := nI (t + 1)) (lv' := [(1, .int (nI (t + 1))), (0, .ref m0)]) hx hb dX4_saves_76 hl (k := 0) rfl (nI_add t 1) (by decide) rfl (fun ls hl => ?_)
        refine lv_goto (tgt := 50) hx hb dX4_saves_79 (by decide) ?_
        exact ih2 H locs ls ⟨(upd zf (22 * sy + t) ((mst n mask vf sf) t)), (fun i hi => by by_cases e : i = 22 * sy + t; subst e; rw [pk_us]; exact g_ip (by omega) (by rw [Nat.add_sub_cancel_left]; rfl); rw [pk_un e, h2 i hi]; exact g_iff (by omega) _ _), hP, hD, hS, lv_sub hl [0, 1] rfl⟩
    · exact ⟨(msv z), (fun i hi => (if_neg (by omega)).symm), hP, hD, hS, lv_sub hl [0, 1] rfl⟩
  · skip
    have c6 : sy = 6 := (nI_eq (a := sy) (b := 6) (by omega) (by omega)).mp c6
    refine lv_iconst (v := 0) hx hb dX4_saves_9 (by decide) ?_
    refine lv_istore_n (lv' := [(1, .int 0), (0, .ref m0)]) hx hb dX4_saves_10 rfl hl (by decide) rfl (fun ls hl => ?_)
    refine g_loopW (st := []) (N := 110) (fun t H locs ls => ∃ zf : Nat → Int32, (∀ i, i < 132 → zf i = (if i < t then msv z (i + 22) else msv z i)) ∧ va_P D vwCl [(m0, .inr (4, [.int th, .ref m1, .ref m2, .ref m3, .int (nI sy), .ref m4, .int (nI ly), .ref m5, .ref m6, .int (nI py), .ref m7, .ref m8, .ref m9, .int (nI ay), .int (if iw = true then 1 else 0), .ref m10, .int (nI ty), .long hy])), (m1, .inl (K 0, 22, .inl (mst n mask vf sf))), (m3, .inl (K 0, 132, .inl zf))] H ∧ va_D A [(m0, .inr (4, [.int th, .ref m1, .ref m2, .ref m3, .int (nI sy), .ref m4, .int (nI ly), .ref m5, .ref m6, .int (nI py), .ref m7, .ref m8, .ref m9, .int (nI ay), .int (if iw = true then 1 else 0), .ref m10, .int (nI ty), .long hy])), (m1, .inl (K 0, 22, .inl (mst n mask vf sf))), (m3, .inl (K 0, 132, .inl zf))] ∧ va_S A s.heap H locs ∧ lv_has ls 2 [(1, .int (nI t)), (0, .ref m0)]) 0 (Nat.zero_le _) ?_ ?_ ?_
    · intro H locs ls hI
      obtain ⟨zf, hh, hP, hD, hS, hl⟩ := hI
      refine lv_iload_n hx hb dX4_saves_11 rfl (lv_at hl 0 rfl) ?_
      refine lv_bipush (v := 110) hx hb dX4_saves_12 (by decide) ?_
      refine lv_icmp_ge (tgt := 38) hx hb dX4_saves_14 (by decide) (fun c8 => ?_) (fun c8 => ?_)
      · skip
        have c8 : 110 ≤ 110 := (nI_leI (a := 110) (b := 110) (by omega) (by omega)).mp c8
        have hP : va_P D vwCl [(m0, .inr (4, [.int th, .ref m1, .ref m2, .ref m3, .int (nI sy), .ref m4, .int (nI ly), .ref m5, .ref m6, .int (nI py), .ref m7, .ref m8, .ref m9, .int (nI ay), .int (if iw = true then 1 else 0), .ref m10, .int (nI ty), .long hy])), (m1, .inl (K 0, 22, .inl (mst n mask vf sf))), (m3, .inl (K 0, 132, .inl (msv (shZ z))))] _ := gP_ext hP 2 rfl (fun i hi => (hh i hi).trans (msv_sh z hi))
        have hD : va_D A [(m0, .inr (4, [.int th, .ref m1, .ref m2, .ref m3, .int (nI sy), .ref m4, .int (nI ly), .ref m5, .ref m6, .int (nI py), .ref m7, .ref m8, .ref m9, .int (nI ay), .int (if iw = true then 1 else 0), .ref m10, .int (nI ty), .long hy])), (m1, .inl (K 0, 22, .inl (mst n mask vf sf))), (m3, .inl (K 0, 132, .inl (msv (shZ z))))] := gD_ext hD 2 rfl
        refine lv_aload_n hx hb dX4_saves_38 rfl (lv_at hl 1 rfl) ?_
        refine lv_dup hx hb dX4_saves_39 rfl ?_
        refine va_get (D := D) (ci := 4) (v := .int (nI sy)) (C := RX4) (T := TX4) (N := 18) hx hb hts hi4 hown hK hP 0 rfl rfl 4 (by decide) (hts (.fieldLink RX4 48 "PairedChannelsModel" "savedMany" "I") (List.mem_of_getElem? (i := 1) (by decide +kernel))) (fun _ h9 => h9) rfl dX4_saves_40 ?_
        refine lv_iconst (v := 1) hx hb dX4_saves_43 (by decide) ?_
        refine lv_isub hx hb dX4_saves_44 ?_
        refine lv_eqi (nI (sy - 1)) (pk_sub (a := sy) (b := 1) (by omega)) ?_
        refine va_put (D := D) (ci := 4) (v := .int (nI (sy - 1))) (ty := .int) (C := RX4) (T := TX4) (N := 18) hx hb hts hi4 tyX4 tyX4_ok nmX4 hown hK hP hD hS 0 rfl rfl 4 (by decide) (hts (.fieldLink RX4 48 "PairedChannelsModel" "savedMany" "I") (List.mem_of_getElem? (i := 1) (by decide +kernel))) (fun _ h9 => h9) rfl (by decide +kernel) (rfl) (rfl) (Nat.le_of_ble_eq_true rfl) dX4_saves_45 (fun H locs hP hD hS => ?_)
        have hP : va_P D vwCl [(m0, .inr (4, [.int th, .ref m1, .ref m2, .ref m3, .int (nI (sy - 1)), .ref m4, .int (nI ly), .ref m5, .ref m6, .int (nI py), .ref m7, .ref m8, .ref m9, .int (nI ay), .int (if iw = true then 1 else 0), .ref m10, .int (nI ty), .long hy])), (m1, .inl (K 0, 22, .inl (mst n mask vf sf))), (m3, .inl (K 0, 132, .inl (msv (shZ z))))] _ := hP
        have hD : va_D A [(m0, .inr (4, [.int th, .ref m1, .ref m2, .ref m3, .int (nI (sy - 1)), .ref m4, .int (nI ly), .ref m5, .ref m6, .int (nI py), .ref m7, .ref m8, .ref m9, .int (nI ay), .int (if iw = true then 1 else 0), .ref m10, .int (nI ty), .long hy])), (m1, .inl (K 0, 22, .inl (mst n mask vf sf))), (m3, .inl (K 0, 132, .inl (msv (shZ z))))] := hD
        refine lv_iconst (v := 0) hx hb dX4_saves_48 (by decide) ?_
        refine lv_istore_n (lv' := [(1, .int 0), (0, .ref m0)]) hx hb dX4_saves_49 rfl hl (by decide) rfl (fun ls hl => ?_)
        refine g_loopW (st := []) (N := 22) (fun t H locs ls => ∃ zf : Nat → Int32, (∀ i, i < 132 → zf i = (if 22 * (sy - 1) ≤ i ∧ i < 22 * (sy - 1) + t then mrw (n, mask, vf, sf) (i - 22 * (sy - 1)) else msv (shZ z) i)) ∧ va_P D vwCl [(m0, .inr (4, [.int th, .ref m1, .ref m2, .ref m3, .int (nI (sy - 1)), .ref m4, .int (nI ly), .ref m5, .ref m6, .int (nI py), .ref m7, .ref m8, .ref m9, .int (nI ay), .int (if iw = true then 1 else 0), .ref m10, .int (nI ty), .long hy])), (m1, .inl (K 0, 22, .inl (mst n mask vf sf))), (m3, .inl (K 0, 132, .inl zf))] H ∧ va_D A [(m0, .inr (4, [.int th, .ref m1, .ref m2, .ref m3, .int (nI (sy - 1)), .ref m4, .int (nI ly), .ref m5, .ref m6, .int (nI py), .ref m7, .ref m8, .ref m9, .int (nI ay), .int (if iw = true then 1 else 0), .ref m10, .int (nI ty), .long hy])), (m1, .inl (K 0, 22, .inl (mst n mask vf sf))), (m3, .inl (K 0, 132, .inl zf))] ∧ va_S A s.heap H locs ∧ lv_has ls 2 [(1, .int (nI t)), (0, .ref m0)]) 0 (Nat.zero_le _) ?_ ?_ ?_
        · intro H locs ls hI
          obtain ⟨zf, h2, hP, hD, hS, hl⟩ := hI
          have h2 : ∀ i, i < 132 → zf i = msv (upW (shZ z) (sy - 1) (n, mask, vf, sf)) i := fun i hi => (h2 i hi).trans (msv_up (shZ z) (sy - 1) (n, mask, vf, sf) i)
          refine lv_iload_n hx hb dX4_saves_50 rfl (lv_at hl 0 rfl) ?_
          refine lv_bipush (v := 22) hx hb dX4_saves_51 (by decide) ?_
          refine lv_icmp_ge (tgt := 82) hx hb dX4_saves_53 (by decide) (fun c10 => ?_) (fun c10 => ?_)
          · skip
            have c10 : 22 ≤ 22 := (nI_leI (a := 22) (b := 22) (by omega) (by omega)).mp c10
            have hP : va_P D vwCl [(m0, .inr (4, [.int th, .ref m1, .ref m2, .ref m3, .int (nI (sy - 1)), .ref m4, .int (nI ly), .ref m5, .ref m6, .int (nI py), .ref m7, .ref m8, .ref m9, .int (nI ay), .int (if iw = true then 1 else 0), .ref m10, .int (nI ty), .long hy])), (m1, .inl (K 0, 22, .inl (mst n mask vf sf))), (m3, .inl (K 0, 132, .inl (msv (upW (shZ z) (sy - 1) (n, mask, vf, sf)))))] _ := gP_ext hP 2 rfl (h2)
            have hD : va_D A [(m0, .inr (4, [.int th, .ref m1, .ref m2, .ref m3, .int (nI (sy - 1)), .ref m4, .int (nI ly), .ref m5, .ref m6, .int (nI py), .ref m7, .ref m8, .ref m9, .int (nI ay), .int (if iw = true then 1 else 0), .ref m10, .int (nI ty), .long hy])), (m1, .inl (K 0, 22, .inl (mst n mask vf sf))), (m3, .inl (K 0, 132, .inl (msv (upW (shZ z) (sy - 1) (n, mask, vf, sf)))))] := gD_ext hD 2 rfl
            have e11 : (msv (upW (shZ z) (sy - 1) (n, mask, vf, sf))) = (msv (mzS z sy (n, mask, vf, sf))) := congrArg msv (mzS_6 c6)
            rw [e11] at hP hD
            have hP : va_P D vwCl [(m0, .inr (4, [.int th, .ref m1, .ref m2, .ref m3, .int (nI (sy - 1)), .ref m4, .int (nI ly), .ref m5, .ref m6, .int (nI py), .ref m7, .ref m8, .ref m9, .int (nI ay), .int (if iw = true then 1 else 0), .ref m10, .int (nI ty), .long hy])), (m1, .inl (K 0, 22, .inl (mst n mask vf sf))), (m3, .inl (K 0, 132, .inl (msv (mzS z sy (n, mask, vf, sf)))))] _ := hP
            have hD : va_D A [(m0, .inr (4, [.int th, .ref m1, .ref m2, .ref m3, .int (nI (sy - 1)), .ref m4, .int (nI ly), .ref m5, .ref m6, .int (nI py), .ref m7, .ref m8, .ref m9, .int (nI ay), .int (if iw = true then 1 else 0), .ref m10, .int (nI ty), .long hy])), (m1, .inl (K 0, 22, .inl (mst n mask vf sf))), (m3, .inl (K 0, 132, .inl (msv (mzS z sy (n, mask, vf, sf)))))] := hD
            refine lv_aload_n hx hb dX4_saves_82 rfl (lv_at hl 1 rfl) ?_
            refine lv_dup hx hb dX4_saves_83 rfl ?_
            refine va_get (D := D) (ci := 4) (v := .int (nI (sy - 1))) (C := RX4) (T := TX4) (N := 18) hx hb hts hi4 hown hK hP 0 rfl rfl 4 (by decide) (hts (.fieldLink RX4 48 "PairedChannelsModel" "savedMany" "I") (List.mem_of_getElem? (i := 1) (by decide +kernel))) (fun _ h9 => h9) rfl dX4_saves_84 ?_
            refine lv_iconst (v := 1) hx hb dX4_saves_87 (by decide) ?_
            refine lv_iadd hx hb dX4_saves_88 ?_
            refine lv_eqi (nI ((sy - 1) + 1)) ((nI_add (sy - 1) 1).trans (congrArg nI (by omega))) ?_
            refine va_put (D := D) (ci := 4) (v := .int (nI ((sy - 1) + 1))) (ty := .int) (C := RX4) (T := TX4) (N := 18) hx hb hts hi4 tyX4 tyX4_ok nmX4 hown hK hP hD hS 0 rfl rfl 4 (by decide) (hts (.fieldLink RX4 48 "PairedChannelsModel" "savedMany" "I") (List.mem_of_getElem? (i := 1) (by decide +kernel))) (fun _ h9 => h9) rfl (by decide +kernel) (rfl) (rfl) (Nat.le_of_ble_eq_true rfl) dX4_saves_89 (fun H locs hP hD hS => ?_)
            have hP : va_P D vwCl [(m0, .inr (4, [.int th, .ref m1, .ref m2, .ref m3, .int (nI ((sy - 1) + 1)), .ref m4, .int (nI ly), .ref m5, .ref m6, .int (nI py), .ref m7, .ref m8, .ref m9, .int (nI ay), .int (if iw = true then 1 else 0), .ref m10, .int (nI ty), .long hy])), (m1, .inl (K 0, 22, .inl (mst n mask vf sf))), (m3, .inl (K 0, 132, .inl (msv (mzS z sy (n, mask, vf, sf)))))] _ := hP
            have hD : va_D A [(m0, .inr (4, [.int th, .ref m1, .ref m2, .ref m3, .int (nI ((sy - 1) + 1)), .ref m4, .int (nI ly), .ref m5, .ref m6, .int (nI py), .ref m7, .ref m8, .ref m9, .int (nI ay), .int (if iw = true then 1 else 0), .ref m10, .int (nI ty), .long hy])), (m1, .inl (K 0, 22, .inl (mst n mask vf sf))), (m3, .inl (K 0, 132, .inl (msv (mzS z sy (n, mask, vf, sf)))))] := hD
            have e12 : (nI ((sy - 1) + 1)) = (nI (svC sy)) := congrArg nI (svC_6 c6)
            rw [e12] at hP hD
            have hP : va_P D vwCl [(m0, .inr (4, [.int th, .ref m1, .ref m2, .ref m3, .int (nI (svC sy)), .ref m4, .int (nI ly), .ref m5, .ref m6, .int (nI py), .ref m7, .ref m8, .ref m9, .int (nI ay), .int (if iw = true then 1 else 0), .ref m10, .int (nI ty), .long hy])), (m1, .inl (K 0, 22, .inl (mst n mask vf sf))), (m3, .inl (K 0, 132, .inl (msv (mzS z sy (n, mask, vf, sf)))))] _ := hP
            have hD : va_D A [(m0, .inr (4, [.int th, .ref m1, .ref m2, .ref m3, .int (nI (svC sy)), .ref m4, .int (nI ly), .ref m5, .ref m6, .int (nI py), .ref m7, .ref m8, .ref m9, .int (nI ay), .int (if iw = true then 1 else 0), .ref m10, .int (nI ty), .long hy])), (m1, .inl (K 0, 22, .inl (mst n mask vf sf))), (m3, .inl (K 0, 132, .inl (msv (mzS z sy (n, mask, vf, sf)))))] := hD
            exact gW_vret () hx hb hr hlk hK hP hD hS (trivial) dX4_saves_92
          · skip
            have c10 : ¬ 22 ≤ 22 := fun h9 => c10 ((nI_leI (a := 22) (b := 22) (by omega) (by omega)).mpr h9)
            omega
        · intro t ht ih9 H locs ls hI
          obtain ⟨zf, h2, hP, hD, hS, hl⟩ := hI
          refine lv_iload_n hx hb dX4_saves_50 rfl (lv_at hl 0 rfl) ?_
          refine lv_bipush (v := 22) hx hb dX4_saves_51 (by decide) ?_
          refine lv_icmp_ge (tgt := 82) hx hb dX4_saves_53 (by decide) (fun c13 => ?_) (fun c13 => ?_)
          · skip
            have c13 : 22 ≤ t := (nI_leI (a := 22) (b := t) (by omega) (by omega)).mp c13
            omega
          · skip
            have c13 : ¬ 22 ≤ t := fun h9 => c13 ((nI_leI (a := 22) (b := t) (by omega) (by omega)).mpr h9)
            refine lv_aload_n hx hb dX4_saves_56 rfl (lv_at hl 1 rfl) ?_
            refine va_get (D := D) (ci := 4) (v := .ref m3) (C := RX4) (T := TX4) (N := 18) hx hb hts hi4 hown hK hP 0 rfl rfl 3 (by decide) (hts (.fieldLink RX4 16 "PairedChannelsModel" "saved" "[I") (List.mem_of_getElem? (i := 2) (by decide +kernel))) (fun _ h9 => h9) rfl dX4_saves_57 ?_
            refine lv_bipush (v := 22) hx hb dX4_saves_60 (by decide) ?_
            refine lv_aload_n hx hb dX4_saves_62 rfl (lv_at hl 1 rfl) ?_
            refine va_get (D := D) (ci := 4) (v := .int (nI (sy - 1))) (C := RX4) (T := TX4) (N := 18) hx hb hts hi4 hown hK hP 0 rfl rfl 4 (by decide) (hts (.fieldLink RX4 48 "PairedChannelsModel" "savedMany" "I") (List.mem_of_getElem? (i := 1) (by decide +kernel))) (fun _ h9 => h9) rfl dX4_saves_63 ?_
            refine lv_imul hx hb dX4_saves_66 ?_
            refine lv_eqi (nI (22 * (sy - 1))) (pk_mul 22 (sy - 1)) ?_
            refine lv_iload_n hx hb dX4_saves_67 rfl (lv_at hl 0 rfl) ?_
            refine lv_iadd hx hb dX4_saves_68 ?_
            refine lv_eqi (nI ((22 * (sy - 1)) + t)) ((nI_add (22 * (sy - 1)) t).trans (congrArg nI (by omega))) ?_
            refine lv_aload_n hx hb dX4_saves_69 rfl (lv_at hl 1 rfl) ?_
            refine va_get (D := D) (ci := 4) (v := .ref m1) (C := RX4) (T := TX4) (N := 18) hx hb hts hi4 hown hK hP 0 rfl rfl 1 (by decide) (hts (.fieldLink RX4 7 "PairedChannelsModel" "s" "[I") (List.mem_of_getElem? (i := 3) (by decide +kernel))) (fun _ h9 => h9) rfl dX4_saves_70 ?_
            refine lv_iload_n hx hb dX4_saves_73 rfl (lv_at hl 0 rfl) ?_
            refine wa_iald hx hb hK hP 1 0 rfl rfl (t) rfl (by omega) (by decide) dX4_saves_74 ?_
            refine wa_iast (x := (mst n mask vf sf) t) hx hb hK hP hD hS 2 0 rfl rfl ((22 * (sy - 1)) + t) rfl (by omega) (by decide) dX4_saves_75 (fun H locs hP hD hS => ?_)
            have hP : va_P D vwCl [(m0, .inr (4, [.int th, .ref m1, .ref m2, .ref m3, .int (nI (sy - 1)), .ref m4, .int (nI ly), .ref m5, .ref m6, .int (nI py), .ref m7, .ref m8, .ref m9, .int (nI ay), .int (if iw = true then 1 else 0), .ref m10, .int (nI ty), .long hy])), (m1, .inl (K 0, 22, .inl (mst n mask vf sf))), (m3, .inl (K 0, 132, .inl (upd zf ((22 * (sy - 1)) + t) ((mst n mask vf sf) t))))] _ := hP
            have hD : va_D A [(m0, .inr (4, [.int th, .ref m1, .ref m2, .ref m3, .int (nI (sy - 1)), .ref m4, .int (nI ly), .ref m5, .ref m6, .int (nI py), .ref m7, .ref m8, .ref m9, .int (nI ay), .int (if iw = true then 1 else 0), .ref m10, .int (nI ty), .long hy])), (m1, .inl (K 0, 22, .inl (mst n mask vf sf))), (m3, .inl (K 0, 132, .inl (upd zf ((22 * (sy - 1)) + t) ((mst n mask vf sf) t))))] := hD
            refine lv_iinc (v := nI (t + 1)) (lv' := [(1, .int (nI (t + 1))), (0, .ref m0)]) hx hb dX4_saves_76 hl (k := 0) rfl (nI_add t 1) (by decide) rfl (fun ls hl => ?_)
            refine lv_goto (tgt := 50) hx hb dX4_saves_79 (by decide) ?_
            exact ih9 H locs ls ⟨(upd zf ((22 * (sy - 1)) + t) ((mst n mask vf sf) t)), (fun i hi => by by_cases e : i = 22 * (sy - 1) + t; subst e; rw [pk_us]; exact g_ip (by omega) (by rw [Nat.add_sub_cancel_left]; rfl); rw [pk_un e, h2 i hi]; exact g_iff (by omega) _ _), hP, hD, hS, lv_sub hl [0, 1] rfl⟩
        · exact ⟨(msv (shZ z)), (fun i hi => (if_neg (by omega)).symm), hP, hD, hS, lv_sub hl [0, 1] rfl⟩
      · skip
        have c8 : ¬ 110 ≤ 110 := fun h9 => c8 ((nI_leI (a := 110) (b := 110) (by omega) (by omega)).mpr h9)
        omega
    · intro t ht ih7 H locs ls hI
      obtain ⟨zf, hh, hP, hD, hS, hl⟩ := hI
      refine lv_iload_n hx hb dX4_saves_11 rfl (lv_at hl 0 rfl) ?_
      refine lv_bipush (v := 110) hx hb dX4_saves_12 (by decide) ?_
      refine lv_icmp_ge (tgt := 38) hx hb dX4_saves_14 (by decide) (fun c14 => ?_) (fun c14 => ?_)
      · skip
        have c14 : 110 ≤ t := (nI_leI (a := 110) (b := t) (by omega) (by omega)).mp c14
        omega
      · skip
        have c14 : ¬ 110 ≤ t := fun h9 => c14 ((nI_leI (a := 110) (b := t) (by omega) (by omega)).mpr h9)
        refine lv_aload_n hx hb dX4_saves_17 rfl (lv_at hl 1 rfl) ?_
        refine va_get (D := D) (ci := 4) (v := .ref m3) (C := RX4) (T := TX4) (N := 18) hx hb hts hi4 hown hK hP 0 rfl rfl 3 (by decide) (hts (.fieldLink RX4 16 "PairedChannelsModel" "saved" "[I") (List.mem_of_getElem? (i := 2) (by decide +kernel))) (fun _ h9 => h9) rfl dX4_saves_18 ?_
        refine lv_iload_n hx hb dX4_saves_21 rfl (lv_at hl 0 rfl) ?_
        refine lv_aload_n hx hb dX4_saves_22 rfl (lv_at hl 1 rfl) ?_
        refine va_get (D := D) (ci := 4) (v := .ref m3) (C := RX4) (T := TX4) (N := 18) hx hb hts hi4 hown hK hP 0 rfl rfl 3 (by decide) (hts (.fieldLink RX4 16 "PairedChannelsModel" "saved" "[I") (List.mem_of_getElem? (i := 2) (by decide +kernel))) (fun _ h9 => h9) rfl dX4_saves_23 ?_
        refine lv_iload_n hx hb dX4_saves_26 rfl (lv_at hl 0 rfl) ?_
        refine lv_bipush (v := 22) hx hb dX4_saves_27 (by decide) ?_
        refine lv_iadd hx hb dX4_saves_29 ?_
        refine lv_eqi (nI (t + 22)) (nI_add t 22) ?_
        refine wa_iald hx hb hK hP 2 0 rfl rfl (t + 22) rfl (by omega) (by decide) dX4_saves_30 ?_
        refine wa_iast (x := zf (t + 22)) hx hb hK hP hD hS 2 0 rfl rfl (t) rfl (by omega) (by decide) dX4_saves_31 (fun H locs hP hD hS => ?_)
        have hP : va_P D vwCl [(m0, .inr (4, [.int th, .ref m1, .ref m2, .ref m3, .int (nI sy), .ref m4, .int (nI ly), .ref m5, .ref m6, .int (nI py), .ref m7, .ref m8, .ref m9, .int (nI ay), .int (if iw = true then 1 else 0), .ref m10, .int (nI ty), .long hy])), (m1, .inl (K 0, 22, .inl (mst n mask vf sf))), (m3, .inl (K 0, 132, .inl (upd zf t (zf (t + 22)))))] _ := hP
        have hD : va_D A [(m0, .inr (4, [.int th, .ref m1, .ref m2, .ref m3, .int (nI sy), .ref m4, .int (nI ly), .ref m5, .ref m6, .int (nI py), .ref m7, .ref m8, .ref m9, .int (nI ay), .int (if iw = true then 1 else 0), .ref m10, .int (nI ty), .long hy])), (m1, .inl (K 0, 22, .inl (mst n mask vf sf))), (m3, .inl (K 0, 132, .inl (upd zf t (zf (t + 22)))))] := hD
        refine lv_iinc (v := nI (t + 1)) (lv' := [(1, .int (nI (t + 1))), (0, .ref m0)]) hx hb dX4_saves_32 hl (k := 0) rfl (nI_add t 1) (by decide) rfl (fun ls hl => ?_)
        refine lv_goto (tgt := 11) hx hb dX4_saves_35 (by decide) ?_
        exact ih7 H locs ls ⟨(upd zf t (zf (t + 22))), (fun i hi => by by_cases e : i = t; subst e; rw [pk_us, hh _ (by omega)]; exact (if_neg (by omega)).trans (g_ip (Nat.lt_succ_self _) rfl); rw [pk_un e, hh i hi]; exact g_iff (by omega) _ _), hP, hD, hS, lv_sub hl [0, 1] rfl⟩
    · exact ⟨(msv z), (fun i hi => by rw [if_neg (Nat.not_lt_zero i)]), hP, hD, hS, lv_sub hl [0, 1] rfl⟩

set_option maxHeartbeats 4000000 in
set_option maxRecDepth 100000 in
theorem c_X4_putAside (l : Launch) (D : va_G) (K : Nat → ClassId) (m0 : Nat) (m1 : Nat) (m2 : Nat) (m3 : Nat) (m4 : Nat) (m5 : Nat) (m6 : Nat) (m7 : Nat) (m8 : Nat) (m9 : Nat) (m10 : Nat) (th : Int32) (sy : Nat) (ly : Nat) (py : Nat) (ay : Nat) (iw : Bool) (ty : Nat) (hy : Int64) (n : Nat) (mask : Int32) (vf : Nat → Int32) (sf : Nat → Int32) (fa : Nat → Int32)  : MWv l yX4_putAside wsX4_putAside ({ frames := 0, cells := 0, slots := 0, locals := 0 } : Room) D (gTy K) [.ref m0] [(m0, .inr (4, [.int th, .ref m1, .ref m2, .ref m3, .int (nI sy), .ref m4, .int (nI ly), .ref m5, .ref m6, .int (nI py), .ref m7, .ref m8, .ref m9, .int (nI ay), .int (if iw = true then 1 else 0), .ref m10, .int (nI ty), .long hy])), (m1, .inl (K 0, 22, .inl (mst n mask vf sf))), (m2, .inl (K 0, 22, .inl fa))] (fun (u : Nat → Int32) => [(m0, .inr (4, [.int th, .ref m1, .ref m2, .ref m3, .int (nI sy), .ref m4, .int (nI ly), .ref m5, .ref m6, .int (nI py), .ref m7, .ref m8, .ref m9, .int (nI ay), .int (if iw = true then 1 else 0), .ref m10, .int (nI ty), .long hy])), (m1, .inl (K 0, 22, .inl (mst n mask vf sf))), (m2, .inl (K 0, 22, .inl u))]) (fun (u : Nat → Int32) => ∀ i, i < 22 → u i = mst n mask vf sf i) 0 0 := by
  refine g_ofW (Qc := fun A => va_Qv _ (gB D (gTy K) A _) A) (cc := cX4_putAside) (maxL := 2) (ret := none) (own := RX4) (by decide) rfl rfl (Nat.le_of_ble_eq_true rfl) ?_
  intro pp ee s mm below meth cc A hfx hnm hK hP hD hE hS hA ls hl
  obtain ⟨hx, hb, hr, hml, hown, hts, hlk⟩ := hfx
  have hl : lv_has ls 2 [(0, .ref m0)] := hl
  have hi4 : ∀ w ∈ u_ws RX4 TX4 18, w ∈ wsX4_putAside := fun w h => List.mem_cons_of_mem _ (List.mem_append_right _ (h))
  refine lv_iconst (v := 0) hx hb dX4_putAside_0 (by decide) ?_
  refine lv_istore_n (lv' := [(1, .int 0), (0, .ref m0)]) hx hb dX4_putAside_1 rfl hl (by decide) rfl (fun ls hl => ?_)
  refine g_loopW (st := []) (N := 22) (fun t H locs ls => ∃ fa : Nat → Int32, (∀ i, i < t → fa i = mst n mask vf sf i) ∧ va_P D vwCl [(m0, .inr (4, [.int th, .ref m1, .ref m2, .ref m3, .int (nI sy), .ref m4, .int (nI ly), .ref m5, .ref m6, .int (nI py), .ref m7, .ref m8, .ref m9, .int (nI ay), .int (if iw = true then 1 else 0), .ref m10, .int (nI ty), .long hy])), (m1, .inl (K 0, 22, .inl (mst n mask vf sf))), (m2, .inl (K 0, 22, .inl fa))] H ∧ va_D A [(m0, .inr (4, [.int th, .ref m1, .ref m2, .ref m3, .int (nI sy), .ref m4, .int (nI ly), .ref m5, .ref m6, .int (nI py), .ref m7, .ref m8, .ref m9, .int (nI ay), .int (if iw = true then 1 else 0), .ref m10, .int (nI ty), .long hy])), (m1, .inl (K 0, 22, .inl (mst n mask vf sf))), (m2, .inl (K 0, 22, .inl fa))] ∧ va_S A s.heap H locs ∧ lv_has ls 2 [(1, .int (nI t)), (0, .ref m0)]) 0 (Nat.zero_le _) ?_ ?_ ?_
  · intro H locs ls hI
    obtain ⟨fa, hh, hP, hD, hS, hl⟩ := hI
    refine lv_iload_n hx hb dX4_putAside_2 rfl (lv_at hl 0 rfl) ?_
    refine lv_bipush (v := 22) hx hb dX4_putAside_3 (by decide) ?_
    refine lv_icmp_ge (tgt := 26) hx hb dX4_putAside_5 (by decide) (fun c2 => ?_) (fun c2 => ?_)
    · skip
      have c2 : 22 ≤ 22 := (nI_leI (a := 22) (b := 22) (by omega) (by omega)).mp c2
      exact gW_vret fa hx hb hr hlk hK hP hD hS (hh) dX4_putAside_26
    · skip
      have c2 : ¬ 22 ≤ 22 := fun h9 => c2 ((nI_leI (a := 22) (b := 22) (by omega) (by omega)).mpr h9)
      omega
  · intro t ht ih1 H locs ls hI
    obtain ⟨fa, hh, hP, hD, hS, hl⟩ := hI
    refine lv_iload_n hx hb dX4_putAside_2 rfl (lv_at hl 0 rfl) ?_
    refine lv_bipush (v := 22) hx hb dX4_putAside_3 (by decide) ?_
    refine lv_icmp_ge (tgt := 26) hx hb dX4_putAside_5 (by decide) (fun c3 => ?_) (fun c3 => ?_)
    · skip
      have c3 : 22 ≤ t := (nI_leI (a := 22) (b := t) (by omega) (by omega)).mp c3
      omega
    · skip
      have c3 : ¬ 22 ≤ t := fun h9 => c3 ((nI_leI (a := 22) (b := t) (by omega) (by omega)).mpr h9)
      refine lv_aload_n hx hb dX4_putAside_8 rfl (lv_at hl 1 rfl) ?_
      refine va_get (D := D) (ci := 4) (v := .ref m2) (C := RX4) (T := TX4) (N := 18) hx hb hts hi4 hown hK hP 0 rfl rfl 2 (by decide) (hts (.fieldLink RX4 13 "PairedChannelsModel" "aside" "[I") (List.mem_of_getElem? (i := 1) (by decide +kernel))) (fun _ h9 => h9) rfl dX4_putAside_9 ?_
      refine lv_iload_n hx hb dX4_putAside_12 rfl (lv_at hl 0 rfl) ?_
      refine lv_aload_n hx hb dX4_putAside_13 rfl (lv_at hl 1 rfl) ?_
      refine va_get (D := D) (ci := 4) (v := .ref m1) (C := RX4) (T := TX4) (N := 18) hx hb hts hi4 hown hK hP 0 rfl rfl 1 (by decide) (hts (.fieldLink RX4 7 "PairedChannelsModel" "s" "[I") (List.mem_of_getElem? (i := 2) (by decide +kernel))) (fun _ h9 => h9) rfl dX4_putAside_14 ?_
      refine lv_iload_n hx hb dX4_putAside_17 rfl (lv_at hl 0 rfl) ?_
      refine wa_iald hx hb hK hP 1 0 rfl rfl (t) rfl (by omega) (by decide) dX4_putAside_18 ?_
      refine wa_iast (x := (mst n mask vf sf) t) hx hb hK hP hD hS 2 0 rfl rfl (t) rfl (by omega) (by decide) dX4_putAside_19 (fun H locs hP hD hS => ?_)
      have hP : va_P D vwCl [(m0, .inr (4, [.int th, .ref m1, .ref m2, .ref m3, .int (nI sy), .ref m4, .int (nI ly), .ref m5, .ref m6, .int (nI py), .ref m7, .ref m8, .ref m9, .int (nI ay), .int (if iw = true then 1 else 0), .ref m10, .int (nI ty), .long hy])), (m1, .inl (K 0, 22, .inl (mst n mask vf sf))), (m2, .inl (K 0, 22, .inl (upd fa t ((mst n mask vf sf) t))))] _ := hP
      have hD : va_D A [(m0, .inr (4, [.int th, .ref m1, .ref m2, .ref m3, .int (nI sy), .ref m4, .int (nI ly), .ref m5, .ref m6, .int (nI py), .ref m7, .ref m8, .ref m9, .int (nI ay), .int (if iw = true then 1 else 0), .ref m10, .int (nI ty), .long hy])), (m1, .inl (K 0, 22, .inl (mst n mask vf sf))), (m2, .inl (K 0, 22, .inl (upd fa t ((mst n mask vf sf) t))))] := hD
      refine lv_iinc (v := nI (t + 1)) (lv' := [(1, .int (nI (t + 1))), (0, .ref m0)]) hx hb dX4_putAside_20 hl (k := 0) rfl (nI_add t 1) (by decide) rfl (fun ls hl => ?_)
      refine lv_goto (tgt := 2) hx hb dX4_putAside_23 (by decide) ?_
      exact ih1 H locs ls ⟨(upd fa t ((mst n mask vf sf) t)), (fun i hi => by by_cases e : i = t; subst e; exact pk_us; rw [pk_un e]; exact hh i (by omega)), hP, hD, hS, lv_sub hl [0, 1] rfl⟩
  · exact ⟨fa, (fun i hi => absurd hi (Nat.not_lt_zero i)), hP, hD, hS, lv_sub hl [0, 1] rfl⟩

set_option maxHeartbeats 4000000 in
set_option maxRecDepth 100000 in
theorem c_X4_thrown (l : Launch) (D : va_G) (K : Nat → ClassId) (m0 : Nat) (m1 : Nat) (m2 : Nat) (m3 : Nat) (m4 : Nat) (m5 : Nat) (m6 : Nat) (m7 : Nat) (m8 : Nat) (m9 : Nat) (m10 : Nat) (th : Int32) (sy : Nat) (ly : Nat) (py : Nat) (ay : Nat) (iw : Bool) (ty : Nat) (hy : Int64)  : MRi l yX4_thrown wsX4_thrown ({ frames := 0, cells := 0, slots := 0, locals := 0 } : Room) D (gTy K) [.ref m0] [(m0, .inr (4, [.int th, .ref m1, .ref m2, .ref m3, .int (nI sy), .ref m4, .int (nI ly), .ref m5, .ref m6, .int (nI py), .ref m7, .ref m8, .ref m9, .int (nI ay), .int (if iw = true then 1 else 0), .ref m10, .int (nI ty), .long hy]))] (fun r => r = th) := by
  refine g_ofR (cc := cX4_thrown) (maxL := 1) (ret := (some .int)) (own := RX4) (by decide) rfl rfl (Nat.le_of_ble_eq_true rfl) ?_
  intro pp ee s mm below meth cc hfx hK hP hE hS ls hl
  obtain ⟨hx, hb, hr, hml, hown, hts, hlk⟩ := hfx
  have hl : lv_has ls 1 [(0, .ref m0)] := hl
  have hi4 : ∀ w ∈ u_ws RX4 TX4 18, w ∈ wsX4_thrown := fun w h => List.mem_cons_of_mem _ (List.mem_append_right _ (h))
  refine lv_aload_n hx hb dX4_thrown_0 rfl (lv_at hl 0 rfl) ?_
  refine va_get (D := D) (ci := 4) (v := .int th) (C := RX4) (T := TX4) (N := 18) hx hb hts hi4 hown hK hP 0 rfl rfl 0 (by decide) (hts (.fieldLink RX4 40 "PairedChannelsModel" "thrown" "I") (List.mem_of_getElem? (i := 1) (by decide +kernel))) (fun _ h9 => h9) rfl dX4_thrown_1 ?_
  exact gR_iret (v := th) hx hb hr hlk (rfl) hS (rfl) dX4_thrown_4
