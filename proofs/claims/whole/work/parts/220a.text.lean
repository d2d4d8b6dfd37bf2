set_option maxHeartbeats 4000000 in
set_option maxRecDepth 100000 in
theorem c_X1_endsWithValue (l : Launch) (D : va_G) (K : Nat → ClassId) (t0 : Nat) (t1 : Nat) (t2 : Nat) (ln : Nat) (tl : Nat) (aw : Nat) (ng : Bool) (haw : aw ≤ 3) : MRi l yX1_endsWithValue wsX1_endsWithValue ({ frames := 0, cells := 0, slots := 0, locals := 0 } : Room) D (gTy K) [.ref t0] [(t0, .inr (1, [.ref t1, .int (nI ln), .ref t2, .int (nI tl), .int (nI aw), .int (if ng = true then 1 else 0)]))] (fun r => r = (if endV aw then 1 else 0)) := by
  refine g_ofR (cc := cX1_endsWithValue) (maxL := 1) (ret := (some .boolean)) (own := RX1) (by decide) rfl rfl (Nat.le_of_ble_eq_true rfl) ?_
  intro pp ee s mm below meth cc hfx hK hP hE hS ls hl
  obtain ⟨hx, hb, hr, hml, hown, hts, hlk⟩ := hfx
  have hl : lv_has ls 1 [(0, .ref t0)] := hl
  have hi1 : ∀ w ∈ u_ws RX1 TX1 6, w ∈ wsX1_endsWithValue := fun w h => List.mem_cons_of_mem _ (List.mem_append_right _ (h))
  refine lv_aload_n hx hb dX1_endsWithValue_0 rfl (lv_at hl 0 rfl) ?_
  refine va_get (D := D) (ci := 1) (v := .int (nI aw)) (C := RX1) (T := TX1) (N := 6) hx hb hts hi1 hown hK hP 0 rfl rfl 4 (by decide) (hts (.fieldLink RX1 23 "PairedChannels$ValuesText" "awaited" "I") (List.mem_of_getElem? (i := 1) (by decide +kernel))) (fun _ h9 => h9) rfl dX1_endsWithValue_1 ?_
  refine lv_iconst (v := 2) hx hb dX1_endsWithValue_4 (by decide) ?_
  refine lv_icmp_eq (tgt := 16) hx hb dX1_endsWithValue_5 (by decide) (fun c5 => ?_) (fun c5 => ?_)
  · skip
    have c5 : aw = 2 := (nI_eq (a := aw) (b := 2) (by omega) (by omega)).mp c5
    refine lv_iconst (v := 1) hx hb dX1_endsWithValue_16 (by decide) ?_
    refine lv_goto (tgt := 21) hx hb dX1_endsWithValue_17 (by decide) ?_
    exact gR_iret (v := 1) hx hb hr hlk (rfl) hS (by first | rw [if_pos (Or.inl c5)] | rw [if_pos (Or.inr c13)] | (first | exact (g_in (fun h => h.elim c5 c13) rfl) | exact (g_tn (fun h => h.elim c5 c13) rfl) | exact (g_an (fun h => h.elim c5 c13) rfl))) dX1_endsWithValue_21
  · skip
    have c5 : ¬ aw = 2 := fun h9 => c5 ((nI_eq (a := aw) (b := 2) (by omega) (by omega)).mpr h9)
    refine lv_aload_n hx hb dX1_endsWithValue_8 rfl (lv_at hl 0 rfl) ?_
    refine va_get (D := D) (ci := 1) (v := .int (nI aw)) (C := RX1) (T := TX1) (N := 6) hx hb hts hi1 hown hK hP 0 rfl rfl 4 (by decide) (hts (.fieldLink RX1 23 "PairedChannels$ValuesText" "awaited" "I") (List.mem_of_getElem? (i := 1) (by decide +kernel))) (fun _ h9 => h9) rfl dX1_endsWithValue_9 ?_
    refine lv_iconst (v := 3) hx hb dX1_endsWithValue_12 (by decide) ?_
    refine lv_icmp_ne (tgt := 20) hx hb dX1_endsWithValue_13 (by decide) (fun c13 => ?_) (fun c13 => ?_)
    · skip
      have c13 : ¬ aw = 3 := fun h9 => c13 ((nI_eq (a := aw) (b := 3) (by omega) (by omega)).mpr h9)
      refine lv_iconst (v := 0) hx hb dX1_endsWithValue_20 (by decide) ?_
      exact gR_iret (v := 0) hx hb hr hlk (rfl) hS (by first | rw [if_pos (Or.inl c5)] | rw [if_pos (Or.inr c13)] | (first | exact (g_in (fun h => h.elim c5 c13) rfl) | exact (g_tn (fun h => h.elim c5 c13) rfl) | exact (g_an (fun h => h.elim c5 c13) rfl))) dX1_endsWithValue_21
    · skip
      have c13 : aw = 3 := (nI_eq (a := aw) (b := 3) (by omega) (by omega)).mp c13
      refine lv_iconst (v := 1) hx hb dX1_endsWithValue_16 (by decide) ?_
      refine lv_goto (tgt := 21) hx hb dX1_endsWithValue_17 (by decide) ?_
      exact gR_iret (v := 1) hx hb hr hlk (rfl) hS (by first | rw [if_pos (Or.inl c5)] | rw [if_pos (Or.inr c13)] | (first | exact (g_in (fun h => h.elim c5 c13) rfl) | exact (g_tn (fun h => h.elim c5 c13) rfl) | exact (g_an (fun h => h.elim c5 c13) rfl))) dX1_endsWithValue_21

set_option maxHeartbeats 4000000 in
set_option maxRecDepth 100000 in
theorem c_X1_takesComma (l : Launch) (D : va_G) (K : Nat → ClassId) (t0 : Nat) (t1 : Nat) (t2 : Nat) (ln : Nat) (tl : Nat) (aw : Nat) (ng : Bool) (vs : Nat → Int32) (haw : aw ≤ 3) (htl : tl ≤ 16) : MWi l yX1_takesComma wsX1_takesComma ({ frames := 1, cells := 0, slots := 0, locals := 20 } : Room) D (gTy K) [.ref t0] [(t0, .inr (1, [.ref t1, .int (nI ln), .ref t2, .int (nI tl), .int (nI aw), .int (if ng = true then 1 else 0)])), (t2, .inl (K 0, 16, .inl vs))] (fun (u : TS) => [(t0, .inr (1, [.ref t1, .int (nI ln), .ref t2, .int (nI u.2.2.1), .int (nI u.1), .int (if u.2.1 = true then 1 else 0)])), (t2, .inl (K 0, 16, .inl u.2.2.2))]) (fun r (u : TS) => (r = 1 ∧ stC aw ng tl vs = some u) ∨ (r = 0 ∧ stC aw ng tl vs = none ∧ u = (aw, ng, tl, vs))) 0 0 := by
  refine g_ofW (Qc := fun A => va_Qi _ (gB D (gTy K) A _) A) (cc := cX1_takesComma) (maxL := 1) (ret := (some .boolean)) (own := RX1) (by decide) rfl rfl (Nat.le_of_ble_eq_true rfl) ?_
  intro pp ee s mm below meth cc A hfx hnm hK hP hD hE hS hA ls hl
  obtain ⟨hx, hb, hr, hml, hown, hts, hlk⟩ := hfx
  have hl : lv_has ls 1 [(0, .ref t0)] := hl
  have hi1 : ∀ w ∈ u_ws RX1 TX1 6, w ∈ wsX1_takesComma := fun w h => List.mem_cons_of_mem _ (List.mem_append_right _ (h))
  refine lv_aload_n hx hb dX1_takesComma_0 rfl (lv_at hl 0 rfl) ?_
  refine gR_i (va_runV (As := []) (rest := []) ⟨hx, hb, hml, hown, hts⟩ (c_X1_endsWithValue l D K t0 t1 t2 ln tl aw ng (by first | assumption | omega)) (cwV 0 hts gX1_takesComma_X1_endsWithValue rfl rfl rfl (by decide +kernel) ⟨Nat.le_of_ble_eq_true rfl, Nat.le_of_ble_eq_true rfl⟩) (gR_preV hE hS hK hP [0] rfl 0 rfl rfl rfl) rfl rfl hl.1 rfl (lv_room (Nat.le_of_ble_eq_true rfl)) dX1_takesComma_1 ⟨Nat.le_of_ble_eq_true rfl, Nat.le_of_ble_eq_true rfl⟩) hS hP (fun rv2 H locs h1 hP hS => ?_)
  have h1 : rv2 = (if endV aw then 1 else 0) := h1
  subst h1
  refine lv_if_eq (tgt := 16) hx hb dX1_takesComma_4 (by decide) (fun c4 => ?_) (fun c4 => ?_)
  · skip
    have c4 : ¬ (endV aw) := b_eq0 c4
    refine lv_iconst (v := 0) hx hb dX1_takesComma_16 (by decide) ?_
    exact gW_iret (v := 0) (aw, ng, tl, vs) hx hb hr hlk (rfl) hK hP hD hS (by first | exact Or.inl ⟨rfl, if_pos ⟨c4, c13⟩⟩ | exact Or.inr ⟨rfl, if_neg (fun h => c4 h.1), rfl⟩ | exact Or.inr ⟨rfl, if_neg (fun h => absurd h.2 (by omega)), rfl⟩) dX1_takesComma_17
  · skip
    have c4 : endV aw := b_ne0 c4
    refine lv_aload_n hx hb dX1_takesComma_7 rfl (lv_at hl 0 rfl) ?_
    refine va_get (D := D) (ci := 1) (v := .int (nI tl)) (C := RX1) (T := TX1) (N := 6) hx hb hts hi1 hown hK hP 0 rfl rfl 3 (by decide) (hts (.fieldLink RX1 19 "PairedChannels$ValuesText" "told" "I") (List.mem_of_getElem? (i := 1) (by decide +kernel))) (fun _ h9 => h9) rfl dX1_takesComma_8 ?_
    refine lv_bipush (v := 16) hx hb dX1_takesComma_11 (by decide) ?_
    refine lv_icmp_lt (tgt := 18) hx hb dX1_takesComma_13 (by decide) (fun c13 => ?_) (fun c13 => ?_)
    · skip
      have c13 : tl < 16 := (nI_ltI (a := tl) (b := 16) (by omega) (by omega)).mp c13
      refine lv_aload_n hx hb dX1_takesComma_18 rfl (lv_at hl 0 rfl) ?_
      refine lv_iconst (v := 0) hx hb dX1_takesComma_19 (by decide) ?_
      refine va_put (D := D) (ci := 1) (v := .int 0) (ty := .int) (C := RX1) (T := TX1) (N := 6) hx hb hts hi1 tyX1 tyX1_ok nmX1 hown hK hP hD hS 0 rfl rfl 4 (by decide) (hts (.fieldLink RX1 23 "PairedChannels$ValuesText" "awaited" "I") (List.mem_of_getElem? (i := 2) (by decide +kernel))) (fun _ h9 => h9) rfl (by decide +kernel) (rfl) (rfl) (Nat.le_of_ble_eq_true rfl) dX1_takesComma_20 (fun H locs hP hD hS => ?_)
      have hP : va_P D vwCl [(t0, .inr (1, [.ref t1, .int (nI ln), .ref t2, .int (nI tl), .int 0, .int (if ng = true then 1 else 0)])), (t2, .inl (K 0, 16, .inl vs))] _ := hP
      have hD : va_D A [(t0, .inr (1, [.ref t1, .int (nI ln), .ref t2, .int (nI tl), .int 0, .int (if ng = true then 1 else 0)])), (t2, .inl (K 0, 16, .inl vs))] := hD
      refine lv_aload_n hx hb dX1_takesComma_23 rfl (lv_at hl 0 rfl) ?_
      refine lv_iconst (v := 0) hx hb dX1_takesComma_24 (by decide) ?_
      refine va_put (D := D) (ci := 1) (v := .int 0) (ty := .boolean) (C := RX1) (T := TX1) (N := 6) hx hb hts hi1 tyX1 tyX1_ok nmX1 hown hK hP hD hS 0 rfl rfl 5 (by decide) (hts (.fieldLink RX1 26 "PairedChannels$ValuesText" "isBelowZero" "Z") (List.mem_of_getElem? (i := 3) (by decide +kernel))) (fun _ h9 => h9) rfl (by decide +kernel) (rfl) (rfl) (Nat.le_of_ble_eq_true rfl) dX1_takesComma_25 (fun H locs hP hD hS => ?_)
      have hP : va_P D vwCl [(t0, .inr (1, [.ref t1, .int (nI ln), .ref t2, .int (nI tl), .int 0, .int 0])), (t2, .inl (K 0, 16, .inl vs))] _ := hP
      have hD : va_D A [(t0, .inr (1, [.ref t1, .int (nI ln), .ref t2, .int (nI tl), .int 0, .int 0])), (t2, .inl (K 0, 16, .inl vs))] := hD
      refine lv_iconst (v := 1) hx hb dX1_takesComma_28 (by decide) ?_
      exact gW_iret (v := 1) (0, false, tl, vs) hx hb hr hlk (rfl) hK hP hD hS (by first | exact Or.inl ⟨rfl, if_pos ⟨c4, c13⟩⟩ | exact Or.inr ⟨rfl, if_neg (fun h => c4 h.1), rfl⟩ | exact Or.inr ⟨rfl, if_neg (fun h => absurd h.2 (by omega)), rfl⟩) dX1_takesComma_29
    · skip
      have c13 : ¬ tl < 16 := fun h9 => c13 ((nI_ltI (a := tl) (b := 16) (by omega) (by omega)).mpr h9)
      refine lv_iconst (v := 0) hx hb dX1_takesComma_16 (by decide) ?_
      exact gW_iret (v := 0) (aw, ng, tl, vs) hx hb hr hlk (rfl) hK hP hD hS (by first | exact Or.inl ⟨rfl, if_pos ⟨c4, c13⟩⟩ | exact Or.inr ⟨rfl, if_neg (fun h => c4 h.1), rfl⟩ | exact Or.inr ⟨rfl, if_neg (fun h => absurd h.2 (by omega)), rfl⟩) dX1_takesComma_17

set_option maxHeartbeats 4000000 in
set_option maxRecDepth 100000 in
theorem c_X1_takesMinus (l : Launch) (D : va_G) (K : Nat → ClassId) (t0 : Nat) (t1 : Nat) (t2 : Nat) (ln : Nat) (tl : Nat) (aw : Nat) (ng : Bool) (vs : Nat → Int32) (haw : aw ≤ 3) (htl : tl ≤ 16) : MWi l yX1_takesMinus wsX1_takesMinus ({ frames := 0, cells := 0, slots := 0, locals := 0 } : Room) D (gTy K) [.ref t0] [(t0, .inr (1, [.ref t1, .int (nI ln), .ref t2, .int (nI tl), .int (nI aw), .int (if ng = true then 1 else 0)])), (t2, .inl (K 0, 16, .inl vs))] (fun (u : TS) => [(t0, .inr (1, [.ref t1, .int (nI ln), .ref t2, .int (nI u.2.2.1), .int (nI u.1), .int (if u.2.1 = true then 1 else 0)])), (t2, .inl (K 0, 16, .inl u.2.2.2))]) (fun r (u : TS) => (r = 1 ∧ stM aw ng tl vs = some u) ∨ (r = 0 ∧ stM aw ng tl vs = none ∧ u = (aw, ng, tl, vs))) 0 0 := by
  refine g_ofW (Qc := fun A => va_Qi _ (gB D (gTy K) A _) A) (cc := cX1_takesMinus) (maxL := 1) (ret := (some .boolean)) (own := RX1) (by decide) rfl rfl (Nat.le_of_ble_eq_true rfl) ?_
  intro pp ee s mm below meth cc A hfx hnm hK hP hD hE hS hA ls hl
  obtain ⟨hx, hb, hr, hml, hown, hts, hlk⟩ := hfx
  have hl : lv_has ls 1 [(0, .ref t0)] := hl
  have hi1 : ∀ w ∈ u_ws RX1 TX1 6, w ∈ wsX1_takesMinus := fun w h => List.mem_cons_of_mem _ (List.mem_append_right _ (h))
  refine lv_aload_n hx hb dX1_takesMinus_0 rfl (lv_at hl 0 rfl) ?_
  refine va_get (D := D) (ci := 1) (v := .int (nI aw)) (C := RX1) (T := TX1) (N := 6) hx hb hts hi1 hown hK hP 0 rfl rfl 4 (by decide) (hts (.fieldLink RX1 23 "PairedChannels$ValuesText" "awaited" "I") (List.mem_of_getElem? (i := 1) (by decide +kernel))) (fun _ h9 => h9) rfl dX1_takesMinus_1 ?_
  refine lv_if_eq (tgt := 9) hx hb dX1_takesMinus_4 (by decide) (fun c4 => ?_) (fun c4 => ?_)
  · skip
    have c4 : aw = 0 := (nI_eq (a := aw) (b := 0) (by omega) (by omega)).mp c4
    refine lv_aload_n hx hb dX1_takesMinus_9 rfl (lv_at hl 0 rfl) ?_
    refine lv_iconst (v := 1) hx hb dX1_takesMinus_10 (by decide) ?_
    refine va_put (D := D) (ci := 1) (v := .int 1) (ty := .int) (C := RX1) (T := TX1) (N := 6) hx hb hts hi1 tyX1 tyX1_ok nmX1 hown hK hP hD hS 0 rfl rfl 4 (by decide) (hts (.fieldLink RX1 23 "PairedChannels$ValuesText" "awaited" "I") (List.mem_of_getElem? (i := 1) (by decide +kernel))) (fun _ h9 => h9) rfl (by decide +kernel) (rfl) (rfl) (Nat.le_of_ble_eq_true rfl) dX1_takesMinus_11 (fun H locs hP hD hS => ?_)
    have hP : va_P D vwCl [(t0, .inr (1, [.ref t1, .int (nI ln), .ref t2, .int (nI tl), .int 1, .int (if ng = true then 1 else 0)])), (t2, .inl (K 0, 16, .inl vs))] _ := hP
    have hD : va_D A [(t0, .inr (1, [.ref t1, .int (nI ln), .ref t2, .int (nI tl), .int 1, .int (if ng = true then 1 else 0)])), (t2, .inl (K 0, 16, .inl vs))] := hD
    refine lv_aload_n hx hb dX1_takesMinus_14 rfl (lv_at hl 0 rfl) ?_
    refine lv_iconst (v := 1) hx hb dX1_takesMinus_15 (by decide) ?_
    refine va_put (D := D) (ci := 1) (v := .int 1) (ty := .boolean) (C := RX1) (T := TX1) (N := 6) hx hb hts hi1 tyX1 tyX1_ok nmX1 hown hK hP hD hS 0 rfl rfl 5 (by decide) (hts (.fieldLink RX1 26 "PairedChannels$ValuesText" "isBelowZero" "Z") (List.mem_of_getElem? (i := 2) (by decide +kernel))) (fun _ h9 => h9) rfl (by decide +kernel) (rfl) (rfl) (Nat.le_of_ble_eq_true rfl) dX1_takesMinus_16 (fun H locs hP hD hS => ?_)
    have hP : va_P D vwCl [(t0, .inr (1, [.ref t1, .int (nI ln), .ref t2, .int (nI tl), .int 1, .int 1])), (t2, .inl (K 0, 16, .inl vs))] _ := hP
    have hD : va_D A [(t0, .inr (1, [.ref t1, .int (nI ln), .ref t2, .int (nI tl), .int 1, .int 1])), (t2, .inl (K 0, 16, .inl vs))] := hD
    refine lv_iconst (v := 1) hx hb dX1_takesMinus_19 (by decide) ?_
    exact gW_iret (v := 1) (1, true, tl, vs) hx hb hr hlk (rfl) hK hP hD hS (by first | exact Or.inl ⟨rfl, if_pos c4⟩ | exact Or.inr ⟨rfl, if_neg c4, rfl⟩) dX1_takesMinus_20
  · skip
    have c4 : ¬ aw = 0 := fun h9 => c4 ((nI_eq (a := aw) (b := 0) (by omega) (by omega)).mpr h9)
    refine lv_iconst (v := 0) hx hb dX1_takesMinus_7 (by decide) ?_
    exact gW_iret (v := 0) (aw, ng, tl, vs) hx hb hr hlk (rfl) hK hP hD hS (by first | exact Or.inl ⟨rfl, if_pos c4⟩ | exact Or.inr ⟨rfl, if_neg c4, rfl⟩) dX1_takesMinus_8

set_option maxHeartbeats 4000000 in
set_option maxRecDepth 100000 in
theorem c_X1_takesDigit (l : Launch) (D : va_G) (K : Nat → ClassId) (t0 : Nat) (t1 : Nat) (t2 : Nat) (ln : Nat) (tl : Nat) (aw : Nat) (ng : Bool) (vs : Nat → Int32) (d : Int32) (haw : aw ≤ 3) (htl : tl ≤ 16) : MWi l yX1_takesDigit wsX1_takesDigit ({ frames := 0, cells := 0, slots := 0, locals := 0 } : Room) D (gTy K) [.ref t0, .int d] [(t0, .inr (1, [.ref t1, .int (nI ln), .ref t2, .int (nI tl), .int (nI aw), .int (if ng = true then 1 else 0)])), (t2, .inl (K 0, 16, .inl vs))] (fun (u : TS) => [(t0, .inr (1, [.ref t1, .int (nI ln), .ref t2, .int (nI u.2.2.1), .int (nI u.1), .int (if u.2.1 = true then 1 else 0)])), (t2, .inl (K 0, 16, .inl u.2.2.2))]) (fun r (u : TS) => (r = 1 ∧ stD d aw ng tl vs = some u) ∨ (r = 0 ∧ stD d aw ng tl vs = none ∧ u = (aw, ng, tl, vs))) 0 0 := by
  refine g_ofW (Qc := fun A => va_Qi _ (gB D (gTy K) A _) A) (cc := cX1_takesDigit) (maxL := 3) (ret := (some .boolean)) (own := RX1) (by decide) rfl rfl (Nat.le_of_ble_eq_true rfl) ?_
  intro pp ee s mm below meth cc A hfx hnm hK hP hD hE hS hA ls hl
  obtain ⟨hx, hb, hr, hml, hown, hts, hlk⟩ := hfx
  have hl : lv_has ls 3 [(0, .ref t0), (1, .int d)] := hl
  have hi1 : ∀ w ∈ u_ws RX1 TX1 6, w ∈ wsX1_takesDigit := fun w h => List.mem_cons_of_mem _ (List.mem_append_right _ (h))
  refine lv_aload_n hx hb dX1_takesDigit_0 rfl (lv_at hl 0 rfl) ?_
  refine va_get (D := D) (ci := 1) (v := .int (if ng = true then 1 else 0)) (C := RX1) (T := TX1) (N := 6) hx hb hts hi1 hown hK hP 0 rfl rfl 5 (by decide) (hts (.fieldLink RX1 26 "PairedChannels$ValuesText" "isBelowZero" "Z") (List.mem_of_getElem? (i := 1) (by decide +kernel))) (fun _ h9 => h9) rfl dX1_takesDigit_1 ?_
  refine g_cut (F0 mm 13 ls [.int (if ng = true then (-d) else d)]) (fun hJ => ?_) ?_
  · refine lv_if_eq (tgt := 12) hx hb dX1_takesDigit_4 (by decide) (fun c1 => ?_) (fun c1 => ?_)
    · skip
      have c1 : ¬ (ng = true) := b_eq0 c1
      refine lv_iload_n hx hb dX1_takesDigit_12 rfl (lv_at hl 1 rfl) ?_
      refine lv_eqi ((if ng = true then (-d) else d)) (if_neg c1).symm ?_
      exact hJ
    · skip
      have c1 : ng = true := b_ne0 c1
      refine lv_iload_n hx hb dX1_takesDigit_7 rfl (lv_at hl 1 rfl) ?_
      refine lv_ineg hx hb dX1_takesDigit_8 ?_
      refine lv_goto (tgt := 13) hx hb dX1_takesDigit_9 (by decide) ?_
      refine lv_eqi ((if ng = true then (-d) else d)) (if_pos c1).symm ?_
      exact hJ
  · skip
    refine lv_istore_n (lv' := [(2, .int (if ng = true then (-d) else d)), (0, .ref t0), (1, .int d)]) hx hb dX1_takesDigit_13 rfl hl (by decide) rfl (fun ls hl => ?_)
    refine lv_aload_n hx hb dX1_takesDigit_14 rfl (lv_at hl 1 rfl) ?_
    refine va_get (D := D) (ci := 1) (v := .int (nI aw)) (C := RX1) (T := TX1) (N := 6) hx hb hts hi1 hown hK hP 0 rfl rfl 4 (by decide) (hts (.fieldLink RX1 23 "PairedChannels$ValuesText" "awaited" "I") (List.mem_of_getElem? (i := 2) (by decide +kernel))) (fun _ h9 => h9) rfl dX1_takesDigit_15 ?_
    refine lv_iconst (v := 2) hx hb dX1_takesDigit_18 (by decide) ?_
    refine lv_icmp_ne (tgt := 72) hx hb dX1_takesDigit_19 (by decide) (fun c2 => ?_) (fun c2 => ?_)
    · skip
      have c2 : ¬ aw = 2 := fun h9 => c2 ((nI_eq (a := aw) (b := 2) (by omega) (by omega)).mpr h9)
      refine lv_aload_n hx hb dX1_takesDigit_72 rfl (lv_at hl 1 rfl) ?_
      refine va_get (D := D) (ci := 1) (v := .int (nI aw)) (C := RX1) (T := TX1) (N := 6) hx hb hts hi1 hown hK hP 0 rfl rfl 4 (by decide) (hts (.fieldLink RX1 23 "PairedChannels$ValuesText" "awaited" "I") (List.mem_of_getElem? (i := 2) (by decide +kernel))) (fun _ h9 => h9) rfl dX1_takesDigit_73 ?_
      refine lv_if_eq (tgt := 87) hx hb dX1_takesDigit_76 (by decide) (fun c3 => ?_) (fun c3 => ?_)
      · skip
        have c3 : aw = 0 := (nI_eq (a := aw) (b := 0) (by omega) (by omega)).mp c3
        refine lv_aload_n hx hb dX1_takesDigit_87 rfl (lv_at hl 1 rfl) ?_
        refine va_get (D := D) (ci := 1) (v := .int (nI tl)) (C := RX1) (T := TX1) (N := 6) hx hb hts hi1 hown hK hP 0 rfl rfl 3 (by decide) (hts (.fieldLink RX1 19 "PairedChannels$ValuesText" "told" "I") (List.mem_of_getElem? (i := 3) (by decide +kernel))) (fun _ h9 => h9) rfl dX1_takesDigit_88 ?_
        refine lv_bipush (v := 16) hx hb dX1_takesDigit_91 (by decide) ?_
        refine lv_icmp_ge (tgt := 131) hx hb dX1_takesDigit_93 (by decide) (fun c4 => ?_) (fun c4 => ?_)
        · skip
          have c4 : 16 ≤ tl := (nI_leI (a := 16) (b := tl) (by omega) (by omega)).mp c4
          refine lv_iconst (v := 0) hx hb dX1_takesDigit_131 (by decide) ?_
          exact gW_iret (v := 0) (aw, ng, tl, vs) hx hb hr hlk (rfl) hK hP hD hS (by unfold stD; first | (rw [if_pos (by omega)]; exact Or.inl ⟨rfl, rfl⟩) | (rw [if_neg (by omega), if_pos (by omega)]; exact Or.inl ⟨rfl, rfl⟩) | (rw [if_neg (by omega), if_neg (by omega)]; exact Or.inr ⟨rfl, rfl, rfl⟩)) dX1_takesDigit_132
        · skip
          have c4 : ¬ 16 ≤ tl := fun h9 => c4 ((nI_leI (a := 16) (b := tl) (by omega) (by omega)).mpr h9)
          refine lv_aload_n hx hb dX1_takesDigit_96 rfl (lv_at hl 1 rfl) ?_
          refine va_get (D := D) (ci := 1) (v := .ref t2) (C := RX1) (T := TX1) (N := 6) hx hb hts hi1 hown hK hP 0 rfl rfl 2 (by decide) (hts (.fieldLink RX1 15 "PairedChannels$ValuesText" "values" "[I") (List.mem_of_getElem? (i := 4) (by decide +kernel))) (fun _ h9 => h9) rfl dX1_takesDigit_97 ?_
          refine lv_aload_n hx hb dX1_takesDigit_100 rfl (lv_at hl 1 rfl) ?_
          refine va_get (D := D) (ci := 1) (v := .int (nI tl)) (C := RX1) (T := TX1) (N := 6) hx hb hts hi1 hown hK hP 0 rfl rfl 3 (by decide) (hts (.fieldLink RX1 19 "PairedChannels$ValuesText" "told" "I") (List.mem_of_getElem? (i := 3) (by decide +kernel))) (fun _ h9 => h9) rfl dX1_takesDigit_101 ?_
          refine lv_iload_n hx hb dX1_takesDigit_104 rfl (lv_at hl 0 rfl) ?_
          refine wa_iast (x := (if ng = true then (-d) else d)) hx hb hK hP hD hS 1 0 rfl rfl (tl) rfl (by omega) (by decide) dX1_takesDigit_105 (fun H locs hP hD hS => ?_)
          have hP : va_P D vwCl [(t0, .inr (1, [.ref t1, .int (nI ln), .ref t2, .int (nI tl), .int (nI aw), .int (if ng = true then 1 else 0)])), (t2, .inl (K 0, 16, .inl (upd vs tl (if ng = true then (-d) else d))))] _ := hP
          have hD : va_D A [(t0, .inr (1, [.ref t1, .int (nI ln), .ref t2, .int (nI tl), .int (nI aw), .int (if ng = true then 1 else 0)])), (t2, .inl (K 0, 16, .inl (upd vs tl (if ng = true then (-d) else d))))] := hD
          refine lv_aload_n hx hb dX1_takesDigit_106 rfl (lv_at hl 1 rfl) ?_
          refine lv_dup hx hb dX1_takesDigit_107 rfl ?_
          refine va_get (D := D) (ci := 1) (v := .int (nI tl)) (C := RX1) (T := TX1) (N := 6) hx hb hts hi1 hown hK hP 0 rfl rfl 3 (by decide) (hts (.fieldLink RX1 19 "PairedChannels$ValuesText" "told" "I") (List.mem_of_getElem? (i := 3) (by decide +kernel))) (fun _ h9 => h9) rfl dX1_takesDigit_108 ?_
          refine lv_iconst (v := 1) hx hb dX1_takesDigit_111 (by decide) ?_
          refine lv_iadd hx hb dX1_takesDigit_112 ?_
          refine lv_eqi (nI (tl + 1)) (nI_add tl 1) ?_
          refine va_put (D := D) (ci := 1) (v := .int (nI (tl + 1))) (ty := .int) (C := RX1) (T := TX1) (N := 6) hx hb hts hi1 tyX1 tyX1_ok nmX1 hown hK hP hD hS 0 rfl rfl 3 (by decide) (hts (.fieldLink RX1 19 "PairedChannels$ValuesText" "told" "I") (List.mem_of_getElem? (i := 3) (by decide +kernel))) (fun _ h9 => h9) rfl (by decide +kernel) (rfl) (rfl) (Nat.le_of_ble_eq_true rfl) dX1_takesDigit_113 (fun H locs hP hD hS => ?_)
          have hP : va_P D vwCl [(t0, .inr (1, [.ref t1, .int (nI ln), .ref t2, .int (nI (tl + 1)), .int (nI aw), .int (if ng = true then 1 else 0)])), (t2, .inl (K 0, 16, .inl (upd vs tl (if ng = true then (-d) else d))))] _ := hP
          have hD : va_D A [(t0, .inr (1, [.ref t1, .int (nI ln), .ref t2, .int (nI (tl + 1)), .int (nI aw), .int (if ng = true then 1 else 0)])), (t2, .inl (K 0, 16, .inl (upd vs tl (if ng = true then (-d) else d))))] := hD
          refine lv_aload_n hx hb dX1_takesDigit_116 rfl (lv_at hl 1 rfl) ?_
          refine lv_iload_n hx hb dX1_takesDigit_117 rfl (lv_at hl 2 rfl) ?_
          refine g_cut (F0 mm 126 ls [.int (if d = 0 then 3 else 2), .ref t0]) (fun hJ => ?_) ?_
          · refine lv_if_ne (tgt := 125) hx hb dX1_takesDigit_118 (by decide) (fun c5 => ?_) (fun c5 => ?_)
            · skip
              refine lv_iconst (v := 2) hx hb dX1_takesDigit_125 (by decide) ?_
              refine lv_eqi ((if d = 0 then 3 else 2)) (if_neg c5).symm ?_
              exact hJ
            · skip
              refine lv_iconst (v := 3) hx hb dX1_takesDigit_121 (by decide) ?_
              refine lv_goto (tgt := 126) hx hb dX1_takesDigit_122 (by decide) ?_
              refine lv_eqi ((if d = 0 then 3 else 2)) (if_pos c5).symm ?_
              exact hJ
          · skip
            refine lv_eqi (nI (if d = 0 then 3 else 2)) (nI_if32 _) ?_
            refine va_put (D := D) (ci := 1) (v := .int (nI (if d = 0 then 3 else 2))) (ty := .int) (C := RX1) (T := TX1) (N := 6) hx hb hts hi1 tyX1 tyX1_ok nmX1 hown hK hP hD hS 0 rfl rfl 4 (by decide) (hts (.fieldLink RX1 23 "PairedChannels$ValuesText" "awaited" "I") (List.mem_of_getElem? (i := 2) (by decide +kernel))) (fun _ h9 => h9) rfl (by decide +kernel) (rfl) (rfl) (Nat.le_of_ble_eq_true rfl) dX1_takesDigit_126 (fun H locs hP hD hS => ?_)
            have hP : va_P D vwCl [(t0, .inr (1, [.ref t1, .int (nI ln), .ref t2, .int (nI (tl + 1)), .int (nI (if d = 0 then 3 else 2)), .int (if ng = true then 1 else 0)])), (t2, .inl (K 0, 16, .inl (upd vs tl (if ng = true then (-d) else d))))] _ := hP
            have hD : va_D A [(t0, .inr (1, [.ref t1, .int (nI ln), .ref t2, .int (nI (tl + 1)), .int (nI (if d = 0 then 3 else 2)), .int (if ng = true then 1 else 0)])), (t2, .inl (K 0, 16, .inl (upd vs tl (if ng = true then (-d) else d))))] := hD
            refine lv_iconst (v := 1) hx hb dX1_takesDigit_129 (by decide) ?_
            exact gW_iret (v := 1) (if d = 0 then 3 else 2, ng, tl + 1, upd vs tl (if ng = true then (-d) else d)) hx hb hr hlk (rfl) hK hP hD hS (by unfold stD; first | (rw [if_pos (by omega)]; exact Or.inl ⟨rfl, rfl⟩) | (rw [if_neg (by omega), if_pos (by omega)]; exact Or.inl ⟨rfl, rfl⟩) | (rw [if_neg (by omega), if_neg (by omega)]; exact Or.inr ⟨rfl, rfl, rfl⟩)) dX1_takesDigit_130
      · skip
        have c3 : ¬ aw = 0 := fun h9 => c3 ((nI_eq (a := aw) (b := 0) (by omega) (by omega)).mpr h9)
        refine lv_aload_n hx hb dX1_takesDigit_79 rfl (lv_at hl 1 rfl) ?_
        refine va_get (D := D) (ci := 1) (v := .int (nI aw)) (C := RX1) (T := TX1) (N := 6) hx hb hts hi1 hown hK hP 0 rfl rfl 4 (by decide) (hts (.fieldLink RX1 23 "PairedChannels$ValuesText" "awaited" "I") (List.mem_of_getElem? (i := 2) (by decide +kernel))) (fun _ h9 => h9) rfl dX1_takesDigit_80 ?_
        refine lv_iconst (v := 1) hx hb dX1_takesDigit_83 (by decide) ?_
        refine lv_icmp_ne (tgt := 131) hx hb dX1_takesDigit_84 (by decide) (fun c7 => ?_) (fun c7 => ?_)
        · skip
          have c7 : ¬ aw = 1 := fun h9 => c7 ((nI_eq (a := aw) (b := 1) (by omega) (by omega)).mpr h9)
          refine lv_iconst (v := 0) hx hb dX1_takesDigit_131 (by decide) ?_
          exact gW_iret (v := 0) (aw, ng, tl, vs) hx hb hr hlk (rfl) hK hP hD hS (by unfold stD; first | (rw [if_pos (by omega)]; exact Or.inl ⟨rfl, rfl⟩) | (rw [if_neg (by omega), if_pos (by omega)]; exact Or.inl ⟨rfl, rfl⟩) | (rw [if_neg (by omega), if_neg (by omega)]; exact Or.inr ⟨rfl, rfl, rfl⟩)) dX1_takesDigit_132
        · skip
          have c7 : aw = 1 := (nI_eq (a := aw) (b := 1) (by omega) (by omega)).mp c7
          refine lv_aload_n hx hb dX1_takesDigit_87 rfl (lv_at hl 1 rfl) ?_
          refine va_get (D := D) (ci := 1) (v := .int (nI tl)) (C := RX1) (T := TX1) (N := 6) hx hb hts hi1 hown hK hP 0 rfl rfl 3 (by decide) (hts (.fieldLink RX1 19 "PairedChannels$ValuesText" "told" "I") (List.mem_of_getElem? (i := 3) (by decide +kernel))) (fun _ h9 => h9) rfl dX1_takesDigit_88 ?_
          refine lv_bipush (v := 16) hx hb dX1_takesDigit_91 (by decide) ?_
          refine lv_icmp_ge (tgt := 131) hx hb dX1_takesDigit_93 (by decide) (fun c8 => ?_) (fun c8 => ?_)
          · skip
            have c8 : 16 ≤ tl := (nI_leI (a := 16) (b := tl) (by omega) (by omega)).mp c8
            refine lv_iconst (v := 0) hx hb dX1_takesDigit_131 (by decide) ?_
            exact gW_iret (v := 0) (aw, ng, tl, vs) hx hb hr hlk (rfl) hK hP hD hS (by unfold stD; first | (rw [if_pos (by omega)]; exact Or.inl ⟨rfl, rfl⟩) | (rw [if_neg (by omega), if_pos (by omega)]; exact Or.inl ⟨rfl, rfl⟩) | (rw [if_neg (by omega), if_neg (by omega)]; exact Or.inr ⟨rfl, rfl, rfl⟩)) dX1_takesDigit_132
          · skip
            have c8 : ¬ 16 ≤ tl := fun h9 => c8 ((nI_leI (a := 16) (b := tl) (by omega) (by omega)).mpr h9)
            refine lv_aload_n hx hb dX1_takesDigit_96 rfl (lv_at hl 1 rfl) ?_
            refine va_get (D := D) (ci := 1) (v := .ref t2) (C := RX1) (T := TX1) (N := 6) hx hb hts hi1 hown hK hP 0 rfl rfl 2 (by decide) (hts (.fieldLink RX1 15 "PairedChannels$ValuesText" "values" "[I") (List.mem_of_getElem? (i := 4) (by decide +kernel))) (fun _ h9 => h9) rfl dX1_takesDigit_97 ?_
            refine lv_aload_n hx hb dX1_takesDigit_100 rfl (lv_at hl 1 rfl) ?_
            refine va_get (D := D) (ci := 1) (v := .int (nI tl)) (C := RX1) (T := TX1) (N := 6) hx hb hts hi1 hown hK hP 0 rfl rfl 3 (by decide) (hts (.fieldLink RX1 19 "PairedChannels$ValuesText" "told" "I") (List.mem_of_getElem? (i := 3) (by decide +kernel))) (fun _ h9 => h9) rfl dX1_takesDigit_101 ?_
            refine lv_iload_n hx hb dX1_takesDigit_104 rfl (lv_at hl 0 rfl) ?_
            refine wa_iast (x := (if ng = true then (-d) else d)) hx hb hK hP hD hS 1 0 rfl rfl (tl) rfl (by omega) (by decide) dX1_takesDigit_105 (fun H locs hP hD hS => ?_)
            have hP : va_P D vwCl [(t0, .inr (1, [.ref t1, .int (nI ln), .ref t2, .int (nI tl), .int (nI aw), .int (if ng = true then 1 else 0)])), (t2, .inl (K 0, 16, .inl (upd vs tl (if ng = true then (-d) else d))))] _ := hP
            have hD : va_D A [(t0, .inr (1, [.ref t1, .int (nI ln), .ref t2, .int (nI tl), .int (nI aw), .int (if ng = true then 1 else 0)])), (t2, .inl (K 0, 16, .inl (upd vs tl (if ng = true then (-d) else d))))] := hD
            refine lv_aload_n hx hb dX1_takesDigit_106 rfl (lv_at hl 1 rfl) ?_
            refine lv_dup hx hb dX1_takesDigit_107 rfl ?_
            refine va_get (D := D) (ci := 1) (v := .int (nI tl)) (C := RX1) (T := TX1) (N := 6) hx hb hts hi1 hown hK hP 0 rfl rfl 3 (by decide) (hts (.fieldLink RX1 19 "PairedChannels$ValuesText" "told" "I") (List.mem_of_getElem? (i := 3) (by decide +kernel))) (fun _ h9 => h9) rfl dX1_takesDigit_108 ?_
            refine lv_iconst (v := 1) hx hb dX1_takesDigit_111 (by decide) ?_
            refine lv_iadd hx hb dX1_takesDigit_112 ?_
            refine lv_eqi (nI (tl + 1)) (nI_add tl 1) ?_
            refine va_put (D := D) (ci := 1) (v := .int (nI (tl + 1))) (ty := .int) (C := RX1) (T := TX1) (N := 6) hx hb hts hi1 tyX1 tyX1_ok nmX1 hown hK hP hD hS 0 rfl rfl 3 (by decide) (hts (.fieldLink RX1 19 "PairedChannels$ValuesText" "told" "I") (List.mem_of_getElem? (i := 3) (by decide +kernel))) (fun _ h9 => h9) rfl (by decide +kernel) (rfl) (rfl) (Nat.le_of_ble_eq_true rfl) dX1_takesDigit_113 (fun H locs hP hD hS => ?_)
            have hP : va_P D vwCl [(t0, .inr (1, [.ref t1, .int (nI ln), .ref t2, .int (nI (tl + 1)), .int (nI aw), .int (if ng = true then 1 else 0)])), (t2, .inl (K 0, 16, .inl (upd vs tl (if ng = true then (-d) else d))))] _ := hP
            have hD : va_D A [(t0, .inr (1, [.ref t1, .int (nI ln), .ref t2, .int (nI (tl + 1)), .int (nI aw), .int (if ng = true then 1 else 0)])), (t2, .inl (K 0, 16, .inl (upd vs tl (if ng = true then (-d) else d))))] := hD
            refine lv_aload_n hx hb dX1_takesDigit_116 rfl (lv_at hl 1 rfl) ?_
            refine lv_iload_n hx hb dX1_takesDigit_117 rfl (lv_at hl 2 rfl) ?_
            refine g_cut (F0 mm 126 ls [.int (if d = 0 then 3 else 2), .ref t0]) (fun hJ => ?_) ?_
            · refine lv_if_ne (tgt := 125) hx hb dX1_takesDigit_118 (by decide) (fun c9 => ?_) (fun c9 => ?_)
              · skip
                refine lv_iconst (v := 2) hx hb dX1_takesDigit_125 (by decide) ?_
                refine lv_eqi ((if d = 0 then 3 else 2)) (if_neg c9).symm ?_
                exact hJ
              · skip
                refine lv_iconst (v := 3) hx hb dX1_takesDigit_121 (by decide) ?_
                refine lv_goto (tgt := 126) hx hb dX1_takesDigit_122 (by decide) ?_
                refine lv_eqi ((if d = 0 then 3 else 2)) (if_pos c9).symm ?_
                exact hJ
            · skip
              refine lv_eqi (nI (if d = 0 then 3 else 2)) (nI_if32 _) ?_
              refine va_put (D := D) (ci := 1) (v := .int (nI (if d = 0 then 3 else 2))) (ty := .int) (C := RX1) (T := TX1) (N := 6) hx hb hts hi1 tyX1 tyX1_ok nmX1 hown hK hP hD hS 0 rfl rfl 4 (by decide) (hts (.fieldLink RX1 23 "PairedChannels$ValuesText" "awaited" "I") (List.mem_of_getElem? (i := 2) (by decide +kernel))) (fun _ h9 => h9) rfl (by decide +kernel) (rfl) (rfl) (Nat.le_of_ble_eq_true rfl) dX1_takesDigit_126 (fun H locs hP hD hS => ?_)
              have hP : va_P D vwCl [(t0, .inr (1, [.ref t1, .int (nI ln), .ref t2, .int (nI (tl + 1)), .int (nI (if d = 0 then 3 else 2)), .int (if ng = true then 1 else 0)])), (t2, .inl (K 0, 16, .inl (upd vs tl (if ng = true then (-d) else d))))] _ := hP
              have hD : va_D A [(t0, .inr (1, [.ref t1, .int (nI ln), .ref t2, .int (nI (tl + 1)), .int (nI (if d = 0 then 3 else 2)), .int (if ng = true then 1 else 0)])), (t2, .inl (K 0, 16, .inl (upd vs tl (if ng = true then (-d) else d))))] := hD
              refine lv_iconst (v := 1) hx hb dX1_takesDigit_129 (by decide) ?_
              exact gW_iret (v := 1) (if d = 0 then 3 else 2, ng, tl + 1, upd vs tl (if ng = true then (-d) else d)) hx hb hr hlk (rfl) hK hP hD hS (by unfold stD; first | (rw [if_pos (by omega)]; exact Or.inl ⟨rfl, rfl⟩) | (rw [if_neg (by omega), if_pos (by omega)]; exact Or.inl ⟨rfl, rfl⟩) | (rw [if_neg (by omega), if_neg (by omega)]; exact Or.inr ⟨rfl, rfl, rfl⟩)) dX1_takesDigit_130
    · skip
      have c2 : aw = 2 := (nI_eq (a := aw) (b := 2) (by omega) (by omega)).mp c2
      refine lv_aload_n hx hb dX1_takesDigit_22 rfl (lv_at hl 1 rfl) ?_
      refine va_get (D := D) (ci := 1) (v := .int (nI tl)) (C := RX1) (T := TX1) (N := 6) hx hb hts hi1 hown hK hP 0 rfl rfl 3 (by decide) (hts (.fieldLink RX1 19 "PairedChannels$ValuesText" "told" "I") (List.mem_of_getElem? (i := 3) (by decide +kernel))) (fun _ h9 => h9) rfl dX1_takesDigit_23 ?_
      refine lv_if_le (tgt := 72) hx hb dX1_takesDigit_26 (by decide) (fun c11 => ?_) (fun c11 => ?_)
      · skip
        have c11 : tl ≤ 0 := (nI_leI (a := tl) (b := 0) (by omega) (by omega)).mp c11
        refine lv_aload_n hx hb dX1_takesDigit_72 rfl (lv_at hl 1 rfl) ?_
        refine va_get (D := D) (ci := 1) (v := .int (nI aw)) (C := RX1) (T := TX1) (N := 6) hx hb hts hi1 hown hK hP 0 rfl rfl 4 (by decide) (hts (.fieldLink RX1 23 "PairedChannels$ValuesText" "awaited" "I") (List.mem_of_getElem? (i := 2) (by decide +kernel))) (fun _ h9 => h9) rfl dX1_takesDigit_73 ?_
        refine lv_if_eq (tgt := 87) hx hb dX1_takesDigit_76 (by decide) (fun c12 => ?_) (fun c12 => ?_)
        · skip
          have c12 : aw = 0 := (nI_eq (a := aw) (b := 0) (by omega) (by omega)).mp c12
          refine lv_aload_n hx hb dX1_takesDigit_87 rfl (lv_at hl 1 rfl) ?_
          refine va_get (D := D) (ci := 1) (v := .int (nI tl)) (C := RX1) (T := TX1) (N := 6) hx hb hts hi1 hown hK hP 0 rfl rfl 3 (by decide) (hts (.fieldLink RX1 19 "PairedChannels$ValuesText" "told" "I") (List.mem_of_getElem? (i := 3) (by decide +kernel))) (fun _ h9 => h9) rfl dX1_takesDigit_88 ?_
          refine lv_bipush (v := 16) hx hb dX1_takesDigit_91 (by decide) ?_
          refine lv_icmp_ge (tgt := 131) hx hb dX1_takesDigit_93 (by decide) (fun c13 => ?_) (fun c13 => ?_)
          · skip
            have c13 : 16 ≤ tl := (nI_leI (a := 16) (b := tl) (by omega) (by omega)).mp c13
            refine lv_iconst (v := 0) hx hb dX1_takesDigit_131 (by decide) ?_
            exact gW_iret (v := 0) (aw, ng, tl, vs) hx hb hr hlk (rfl) hK hP hD hS (by unfold stD; first | (rw [if_pos (by omega)]; exact Or.inl ⟨rfl, rfl⟩) | (rw [if_neg (by omega), if_pos (by omega)]; exact Or.inl ⟨rfl, rfl⟩) | (rw [if_neg (by omega), if_neg (by omega)]; exact Or.inr ⟨rfl, rfl, rfl⟩)) dX1_takesDigit_132
          · skip
            have c13 : ¬ 16 ≤ tl := fun h9 => c13 ((nI_leI (a := 16) (b := tl) (by omega) (by omega)).mpr h9)
            refine lv_aload_n hx hb dX1_takesDigit_96 rfl (lv_at hl 1 rfl) ?_
            refine va_get (D := D) (ci := 1) (v := .ref t2) (C := RX1) (T := TX1) (N := 6) hx hb hts hi1 hown hK hP 0 rfl rfl 2 (by decide) (hts (.fieldLink RX1 15 "PairedChannels$ValuesText" "values" "[I") (List.mem_of_getElem? (i := 4) (by decide +kernel))) (fun _ h9 => h9) rfl dX1_takesDigit_97 ?_
            refine lv_aload_n hx hb dX1_takesDigit_100 rfl (lv_at hl 1 rfl) ?_
            refine va_get (D := D) (ci := 1) (v := .int (nI tl)) (C := RX1) (T := TX1) (N := 6) hx hb hts hi1 hown hK hP 0 rfl rfl 3 (by decide) (hts (.fieldLink RX1 19 "PairedChannels$ValuesText" "told" "I") (List.mem_of_getElem? (i := 3) (by decide +kernel))) (fun _ h9 => h9) rfl dX1_takesDigit_101 ?_
            refine lv_iload_n hx hb dX1_takesDigit_104 rfl (lv_at hl 0 rfl) ?_
            refine wa_iast (x := (if ng = true then (-d) else d)) hx hb hK hP hD hS 1 0 rfl rfl (tl) rfl (by omega) (by decide) dX1_takesDigit_105 (fun H locs hP hD hS => ?_)
            have hP : va_P D vwCl [(t0, .inr (1, [.ref t1, .int (nI ln), .ref t2, .int (nI tl), .int (nI aw), .int (if ng = true then 1 else 0)])), (t2, .inl (K 0, 16, .inl (upd vs tl (if ng = true then (-d) else d))))] _ := hP
            have hD : va_D A [(t0, .inr (1, [.ref t1, .int (nI ln), .ref t2, .int (nI tl), .int (nI aw), .int (if ng = true then 1 else 0)])), (t2, .inl (K 0, 16, .inl (upd vs tl (if ng = true then (-d) else d))))] := hD
            refine lv_aload_n hx hb dX1_takesDigit_106 rfl (lv_at hl 1 rfl) ?_
            refine lv_dup hx hb dX1_takesDigit_107 rfl ?_
            refine va_get (D := D) (ci := 1) (v := .int (nI tl)) (C := RX1) (T := TX1) (N := 6) hx hb hts hi1 hown hK hP 0 rfl rfl 3 (by decide) (hts (.fieldLink RX1 19 "PairedChannels$ValuesText" "told" "I") (List.mem_of_getElem? (i := 3) (by decide +kernel))) (fun _ h9 => h9) rfl dX1_takesDigit_108 ?_
            refine lv_iconst (v := 1) hx hb dX1_takesDigit_111 (by decide) ?_
            refine lv_iadd hx hb dX1_takesDigit_112 ?_
            refine lv_eqi (nI (tl + 1)) (nI_add tl 1) ?_
            refine va_put (D := D) (ci := 1) (v := .int (nI (tl + 1))) (ty := .int) (C := RX1) (T := TX1) (N := 6) hx hb hts hi1 tyX1 tyX1_ok nmX1 hown hK hP hD hS 0 rfl rfl 3 (by decide) (hts (.fieldLink RX1 19 "PairedChannels$ValuesText" "told" "I") (List.mem_of_getElem? (i := 3) (by decide +kernel))) (fun _ h9 => h9) rfl (by decide +kernel) (rfl) (rfl) (Nat.le_of_ble_eq_true rfl) dX1_takesDigit_113 (fun H locs hP hD hS => ?_)
            have hP : va_P D vwCl [(t0, .inr (1, [.ref t1, .int (nI ln), .ref t2, .int (nI (tl + 1)), .int (nI aw), .int (if ng = true then 1 else 0)])), (t2, .inl (K 0, 16, .inl (upd vs tl (if ng = true then (-d) else d))))] _ := hP
            have hD : va_D A [(t0, .inr (1, [.ref t1, .int (nI ln), .ref t2, .int (nI (tl + 1)), .int (nI aw), .int (if ng = true then 1 else 0)])), (t2, .inl (K 0, 16, .inl (upd vs tl (if ng = true then (-d) else d))))] := hD
            refine lv_aload_n hx hb dX1_takesDigit_116 rfl (lv_at hl 1 rfl) ?_
            refine lv_iload_n hx hb dX1_takesDigit_117 rfl (lv_at hl 2 rfl) ?_
            refine g_cut (F0 mm 126 ls [.int (if d = 0 then 3 else 2), .ref t0]) (fun hJ => ?_) ?_
            · refine lv_if_ne (tgt := 125) hx hb dX1_takesDigit_118 (by decide) (fun c14 => ?_) (fun c14 => ?_)
              · skip
                refine lv_iconst (v := 2) hx hb dX1_takesDigit_125 (by decide) ?_
                refine lv_eqi ((if d = 0 then 3 else 2)) (if_neg c14).symm ?_
                exact hJ
              · skip
                refine lv_iconst (v := 3) hx hb dX1_takesDigit_121 (by decide) ?_
                refine lv_goto (tgt := 126) hx hb dX1_takesDigit_122 (by decide) ?_
                refine lv_eqi ((if d = 0 then 3 else 2)) (if_pos c14).symm ?_
                exact hJ
            · skip
              refine lv_eqi (nI (if d = 0 then 3 else 2)) (nI_if32 _) ?_
              refine va_put (D := D) (ci := 1) (v := .int (nI (if d = 0 then 3 else 2))) (ty := .int) (C := RX1) (T := TX1) (N := 6) hx hb hts hi1 tyX1 tyX1_ok nmX1 hown hK hP hD hS 0 rfl rfl 4 (by decide) (hts (.fieldLink RX1 23 "PairedChannels$ValuesText" "awaited" "I") (List.mem_of_getElem? (i := 2) (by decide +kernel))) (fun _ h9 => h9) rfl (by decide +kernel) (rfl) (rfl) (Nat.le_of_ble_eq_true rfl) dX1_takesDigit_126 (fun H locs hP hD hS => ?_)
              have hP : va_P D vwCl [(t0, .inr (1, [.ref t1, .int (nI ln), .ref t2, .int (nI (tl + 1)), .int (nI (if d = 0 then 3 else 2)), .int (if ng = true then 1 else 0)])), (t2, .inl (K 0, 16, .inl (upd vs tl (if ng = true then (-d) else d))))] _ := hP
              have hD : va_D A [(t0, .inr (1, [.ref t1, .int (nI ln), .ref t2, .int (nI (tl + 1)), .int (nI (if d = 0 then 3 else 2)), .int (if ng = true then 1 else 0)])), (t2, .inl (K 0, 16, .inl (upd vs tl (if ng = true then (-d) else d))))] := hD
              refine lv_iconst (v := 1) hx hb dX1_takesDigit_129 (by decide) ?_
              exact gW_iret (v := 1) (if d = 0 then 3 else 2, ng, tl + 1, upd vs tl (if ng = true then (-d) else d)) hx hb hr hlk (rfl) hK hP hD hS (by unfold stD; first | (rw [if_pos (by omega)]; exact Or.inl ⟨rfl, rfl⟩) | (rw [if_neg (by omega), if_pos (by omega)]; exact Or.inl ⟨rfl, rfl⟩) | (rw [if_neg (by omega), if_neg (by omega)]; exact Or.inr ⟨rfl, rfl, rfl⟩)) dX1_takesDigit_130
        · skip
          have c12 : ¬ aw = 0 := fun h9 => c12 ((nI_eq (a := aw) (b := 0) (by omega) (by omega)).mpr h9)
          refine lv_aload_n hx hb dX1_takesDigit_79 rfl (lv_at hl 1 rfl) ?_
          refine va_get (D := D) (ci := 1) (v := .int (nI aw)) (C := RX1) (T := TX1) (N := 6) hx hb hts hi1 hown hK hP 0 rfl rfl 4 (by decide) (hts (.fieldLink RX1 23 "PairedChannels$ValuesText" "awaited" "I") (List.mem_of_getElem? (i := 2) (by decide +kernel))) (fun _ h9 => h9) rfl dX1_takesDigit_80 ?_
          refine lv_iconst (v := 1) hx hb dX1_takesDigit_83 (by decide) ?_
          refine lv_icmp_ne (tgt := 131) hx hb dX1_takesDigit_84 (by decide) (fun c16 => ?_) (fun c16 => ?_)
          · skip
            have c16 : ¬ aw = 1 := fun h9 => c16 ((nI_eq (a := aw) (b := 1) (by omega) (by omega)).mpr h9)
            refine lv_iconst (v := 0) hx hb dX1_takesDigit_131 (by decide) ?_
            exact gW_iret (v := 0) (aw, ng, tl, vs) hx hb hr hlk (rfl) hK hP hD hS (by unfold stD; first | (rw [if_pos (by omega)]; exact Or.inl ⟨rfl, rfl⟩) | (rw [if_neg (by omega), if_pos (by omega)]; exact Or.inl ⟨rfl, rfl⟩) | (rw [if_neg (by omega), if_neg (by omega)]; exact Or.inr ⟨rfl, rfl, rfl⟩)) dX1_takesDigit_132
          · skip
            have c16 : aw = 1 := (nI_eq (a := aw) (b := 1) (by omega) (by omega)).mp c16
            refine lv_aload_n hx hb dX1_takesDigit_87 rfl (lv_at hl 1 rfl) ?_
            refine va_get (D := D) (ci := 1) (v := .int (nI tl)) (C := RX1) (T := TX1) (N := 6) hx hb hts hi1 hown hK hP 0 rfl rfl 3 (by decide) (hts (.fieldLink RX1 19 "PairedChannels$ValuesText" "told" "I") (List.mem_of_getElem? (i := 3) (by decide +kernel))) (fun _ h9 => h9) rfl dX1_takesDigit_88 ?_
            refine lv_bipush (v := 16) hx hb dX1_takesDigit_91 (by decide) ?_
            refine lv_icmp_ge (tgt := 131) hx hb dX1_takesDigit_93 (by decide) (fun c17 => ?_) (fun c17 => ?_)
            · skip
              have c17 : 16 ≤ tl := (nI_leI (a := 16) (b := tl) (by omega) (by omega)).mp c17
              refine lv_iconst (v := 0) hx hb dX1_takesDigit_131 (by decide) ?_
              exact gW_iret (v := 0) (aw, ng, tl, vs) hx hb hr hlk (rfl) hK hP hD hS (by unfold stD; first | (rw [if_pos (by omega)]; exact Or.inl ⟨rfl, rfl⟩) | (rw [if_neg (by omega), if_pos (by omega)]; exact Or.inl ⟨rfl, rfl⟩) | (rw [if_neg (by omega), if_neg (by omega)]; exact Or.inr ⟨rfl, rfl, rfl⟩)) dX1_takesDigit_132
            · skip
              have c17 : ¬ 16 ≤ tl := fun h9 => c17 ((nI_leI (a := 16) (b := tl) (by omega) (by omega)).mpr h9)
              refine lv_aload_n hx hb dX1_takesDigit_96 rfl (lv_at hl 1 rfl) ?_
              refine va_get (D := D) (ci := 1) (v := .ref t2) (C := RX1) (T := TX1) (N := 6) hx hb hts hi1 hown hK hP 0 rfl rfl 2 (by decide) (hts (.fieldLink RX1 15 "PairedChannels$ValuesText" "values" "[I") (List.mem_of_getElem? (i := 4) (by decide +kernel))) (fun _ h9 => h9) rfl dX1_takesDigit_97 ?_
              refine lv_aload_n hx hb dX1_takesDigit_100 rfl (lv_at hl 1 rfl) ?_
              refine va_get (D := D) (ci := 1) (v := .int (nI tl)) (C := RX1) (T := TX1) (N := 6) hx hb hts hi1 hown hK hP 0 rfl rfl 3 (by decide) (hts (.fieldLink RX1 19 "PairedChannels$ValuesText" "told" "I") (List.mem_of_getElem? (i := 3) (by decide +kernel))) (fun _ h9 => h9) rfl dX1_takesDigit_101 ?_
              refine lv_iload_n hx hb dX1_takesDigit_104 rfl (lv_at hl 0 rfl) ?_
              refine wa_iast (x := (if ng = true then (-d) else d)) hx hb hK hP hD hS 1 0 rfl rfl (tl) rfl (by omega) (by decide) dX1_takesDigit_105 (fun H locs hP hD hS => ?_)
              have hP : va_P D vwCl [(t0, .inr (1, [.ref t1, .int (nI ln), .ref t2, .int (nI tl), .int (nI aw), .int (if ng = true then 1 else 0)])), (t2, .inl (K 0, 16, .inl (upd vs tl (if ng = true then (-d) else d))))] _ := hP
              have hD : va_D A [(t0, .inr (1, [.ref t1, .int (nI ln), .ref t2, .int (nI tl), .int (nI aw), .int (if ng = true then 1 else 0)])), (t2, .inl (K 0, 16, .inl (upd vs tl (if ng = true then (-d) else d))))] := hD
              refine lv_aload_n hx hb dX1_takesDigit_106 rfl (lv_at hl 1 rfl) ?_
              refine lv_dup hx hb dX1_takesDigit_107 rfl ?_
              refine va_get (D := D) (ci := 1) (v := .int (nI tl)) (C := RX1) (T := TX1) (N := 6) hx hb hts hi1 hown hK hP 0 rfl rfl 3 (by decide) (hts (.fieldLink RX1 19 "PairedChannels$ValuesText" "told" "I") (List.mem_of_getElem? (i := 3) (by decide +kernel))) (fun _ h9 => h9) rfl dX1_takesDigit_108 ?_
              refine lv_iconst (v := 1) hx hb dX1_takesDigit_111 (by decide) ?_
              refine lv_iadd hx hb dX1_takesDigit_112 ?_
              refine lv_eqi (nI (tl + 1)) (nI_add tl 1) ?_
              refine va_put (D := D) (ci := 1) (v := .int (nI (tl + 1))) (ty := .int) (C := RX1) (T := TX1) (N := 6) hx hb hts hi1 tyX1 tyX1_ok nmX1 hown hK hP hD hS 0 rfl rfl 3 (by decide) (hts (.fieldLink RX1 19 "PairedChannels$ValuesText" "told" "I") (List.mem_of_getElem? (i := 3) (by decide +kernel))) (fun _ h9 => h9) rfl (by decide +kernel) (rfl) (rfl) (Nat.le_of_ble_eq_true rfl) dX1_takesDigit_113 (fun H locs hP hD hS => ?_)
              have hP : va_P D vwCl [(t0, .inr (1, [.ref t1, .int (nI ln), .ref t2, .int (nI (tl + 1)), .int (nI aw), .int (if ng = true then 1 else 0)])), (t2, .inl (K 0, 16, .inl (upd vs tl (if ng = true then (-d) else d))))] _ := hP
              have hD : va_D A [(t0, .inr (1, [.ref t1, .int (nI ln), .ref t2, .int (nI (tl + 1)), .int (nI aw), .int (if ng = true then 1 else 0)])), (t2, .inl (K 0, 16, .inl (upd vs tl (if ng = true then (-d) else d))))] := hD
              refine lv_aload_n hx hb dX1_takesDigit_116 rfl (lv_at hl 1 rfl) ?_
              refine lv_iload_n hx hb dX1_takesDigit_117 rfl (lv_at hl 2 rfl) ?_
              refine g_cut (F0 mm 126 ls [.int (if d = 0 then 3 else 2), .ref t0]) (fun hJ => ?_) ?_
              · refine lv_if_ne (tgt := 125) hx hb dX1_takesDigit_118 (by decide) (fun c18 => ?_) (fun c18 => ?_)
                · skip
                  refine lv_iconst (v := 2) hx hb dX1_takesDigit_125 (by decide) ?_
                  refine lv_eqi ((if d = 0 then 3 else 2)) (if_neg c18).symm ?_
                  exact hJ
                · skip
                  refine lv_iconst (v := 3) hx hb dX1_takesDigit_121 (by decide) ?_
                  refine lv_goto (tgt := 126) hx hb dX1_takesDigit_122 (by decide) ?_
                  refine lv_eqi ((if d = 0 then 3 else 2)) (if_pos c18).symm ?_
                  exact hJ
              · skip
                refine lv_eqi (nI (if d = 0 then 3 else 2)) (nI_if32 _) ?_
                refine va_put (D := D) (ci := 1) (v := .int (nI (if d = 0 then 3 else 2))) (ty := .int) (C := RX1) (T := TX1) (N := 6) hx hb hts hi1 tyX1 tyX1_ok nmX1 hown hK hP hD hS 0 rfl rfl 4 (by decide) (hts (.fieldLink RX1 23 "PairedChannels$ValuesText" "awaited" "I") (List.mem_of_getElem? (i := 2) (by decide +kernel))) (fun _ h9 => h9) rfl (by decide +kernel) (rfl) (rfl) (Nat.le_of_ble_eq_true rfl) dX1_takesDigit_126 (fun H locs hP hD hS => ?_)
                have hP : va_P D vwCl [(t0, .inr (1, [.ref t1, .int (nI ln), .ref t2, .int (nI (tl + 1)), .int (nI (if d = 0 then 3 else 2)), .int (if ng = true then 1 else 0)])), (t2, .inl (K 0, 16, .inl (upd vs tl (if ng = true then (-d) else d))))] _ := hP
                have hD : va_D A [(t0, .inr (1, [.ref t1, .int (nI ln), .ref t2, .int (nI (tl + 1)), .int (nI (if d = 0 then 3 else 2)), .int (if ng = true then 1 else 0)])), (t2, .inl (K 0, 16, .inl (upd vs tl (if ng = true then (-d) else d))))] := hD
                refine lv_iconst (v := 1) hx hb dX1_takesDigit_129 (by decide) ?_
                exact gW_iret (v := 1) (if d = 0 then 3 else 2, ng, tl + 1, upd vs tl (if ng = true then (-d) else d)) hx hb hr hlk (rfl) hK hP hD hS (by unfold stD; first | (rw [if_pos (by omega)]; exact Or.inl ⟨rfl, rfl⟩) | (rw [if_neg (by omega), if_pos (by omega)]; exact Or.inl ⟨rfl, rfl⟩) | (rw [if_neg (by omega), if_neg (by omega)]; exact Or.inr ⟨rfl, rfl, rfl⟩)) dX1_takesDigit_130
      · skip
        have c11 : ¬ tl ≤ 0 := fun h9 => c11 ((nI_leI (a := tl) (b := 0) (by omega) (by omega)).mpr h9)
        refine lv_aload_n hx hb dX1_takesDigit_29 rfl (lv_at hl 1 rfl) ?_
        refine va_get (D := D) (ci := 1) (v := .int (nI tl)) (C := RX1) (T := TX1) (N := 6) hx hb hts hi1 hown hK hP 0 rfl rfl 3 (by decide) (hts (.fieldLink RX1 19 "PairedChannels$ValuesText" "told" "I") (List.mem_of_getElem? (i := 3) (by decide +kernel))) (fun _ h9 => h9) rfl dX1_takesDigit_30 ?_
        refine lv_bipush (v := 16) hx hb dX1_takesDigit_33 (by decide) ?_
        refine lv_icmp_gt (tgt := 72) hx hb dX1_takesDigit_35 (by decide) (fun c20 => ?_) (fun c20 => ?_)
        · skip
          have c20 : 16 < tl := (nI_ltI (a := 16) (b := tl) (by omega) (by omega)).mp c20
          refine lv_aload_n hx hb dX1_takesDigit_72 rfl (lv_at hl 1 rfl) ?_
          refine va_get (D := D) (ci := 1) (v := .int (nI aw)) (C := RX1) (T := TX1) (N := 6) hx hb hts hi1 hown hK hP 0 rfl rfl 4 (by decide) (hts (.fieldLink RX1 23 "PairedChannels$ValuesText" "awaited" "I") (List.mem_of_getElem? (i := 2) (by decide +kernel))) (fun _ h9 => h9) rfl dX1_takesDigit_73 ?_
          refine lv_if_eq (tgt := 87) hx hb dX1_takesDigit_76 (by decide) (fun c21 => ?_) (fun c21 => ?_)
          · skip
            have c21 : aw = 0 := (nI_eq (a := aw) (b := 0) (by omega) (by omega)).mp c21
            refine lv_aload_n hx hb dX1_takesDigit_87 rfl (lv_at hl 1 rfl) ?_
            refine va_get (D := D) (ci := 1) (v := .int (nI tl)) (C := RX1) (T := TX1) (N := 6) hx hb hts hi1 hown hK hP 0 rfl rfl 3 (by decide) (hts (.fieldLink RX1 19 "PairedChannels$ValuesText" "told" "I") (List.mem_of_getElem? (i := 3) (by decide +kernel))) (fun _ h9 => h9) rfl dX1_takesDigit_88 ?_
            refine lv_bipush (v := 16) hx hb dX1_takesDigit_91 (by decide) ?_
            refine lv_icmp_ge (tgt := 131) hx hb dX1_takesDigit_93 (by decide) (fun c22 => ?_) (fun c22 => ?_)
            · skip
              have c22 : 16 ≤ tl := (nI_leI (a := 16) (b := tl) (by omega) (by omega)).mp c22
              refine lv_iconst (v := 0) hx hb dX1_takesDigit_131 (by decide) ?_
              exact gW_iret (v := 0) (aw, ng, tl, vs) hx hb hr hlk (rfl) hK hP hD hS (by unfold stD; first | (rw [if_pos (by omega)]; exact Or.inl ⟨rfl, rfl⟩) | (rw [if_neg (by omega), if_pos (by omega)]; exact Or.inl ⟨rfl, rfl⟩) | (rw [if_neg (by omega), if_neg (by omega)]; exact Or.inr ⟨rfl, rfl, rfl⟩)) dX1_takesDigit_132
            · skip
              have c22 : ¬ 16 ≤ tl := fun h9 => c22 ((nI_leI (a := 16) (b := tl) (by omega) (by omega)).mpr h9)
              refine lv_aload_n hx hb dX1_takesDigit_96 rfl (lv_at hl 1 rfl) ?_
              refine va_get (D := D) (ci := 1) (v := .ref t2) (C := RX1) (T := TX1) (N := 6) hx hb hts hi1 hown hK hP 0 rfl rfl 2 (by decide) (hts (.fieldLink RX1 15 "PairedChannels$ValuesText" "values" "[I") (List.mem_of_getElem? (i := 4) (by decide +kernel))) (fun _ h9 => h9) rfl dX1_takesDigit_97 ?_
              refine lv_aload_n hx hb dX1_takesDigit_100 rfl (lv_at hl 1 rfl) ?_
              refine va_get (D := D) (ci := 1) (v := .int (nI tl)) (C := RX1) (T := TX1) (N := 6) hx hb hts hi1 hown hK hP 0 rfl rfl 3 (by decide) (hts (.fieldLink RX1 19 "PairedChannels$ValuesText" "told" "I") (List.mem_of_getElem? (i := 3) (by decide +kernel))) (fun _ h9 => h9) rfl dX1_takesDigit_101 ?_
              refine lv_iload_n hx hb dX1_takesDigit_104 rfl (lv_at hl 0 rfl) ?_
              refine wa_iast (x := (if ng = true then (-d) else d)) hx hb hK hP hD hS 1 0 rfl rfl (tl) rfl (by omega) (by decide) dX1_takesDigit_105 (fun H locs hP hD hS => ?_)
              have hP : va_P D vwCl [(t0, .inr (1, [.ref t1, .int (nI ln), .ref t2, .int (nI tl), .int (nI aw), .int (if ng = true then 1 else 0)])), (t2, .inl (K 0, 16, .inl (upd vs tl (if ng = true then (-d) else d))))] _ := hP
              have hD : va_D A [(t0, .inr (1, [.ref t1, .int (nI ln), .ref t2, .int (nI tl), .int (nI aw), .int (if ng = true then 1 else 0)])), (t2, .inl (K 0, 16, .inl (upd vs tl (if ng = true then (-d) else d))))] := hD
              refine lv_aload_n hx hb dX1_takesDigit_106 rfl (lv_at hl 1 rfl) ?_
              refine lv_dup hx hb dX1_takesDigit_107 rfl ?_
              refine va_get (D := D) (ci := 1) (v := .int (nI tl)) (C := RX1) (T := TX1) (N := 6) hx hb hts hi1 hown hK hP 0 rfl rfl 3 (by decide) (hts (.fieldLink RX1 19 "PairedChannels$ValuesText" "told" "I") (List.mem_of_getElem? (i := 3) (by decide +kernel))) (fun _ h9 => h9) rfl dX1_takesDigit_108 ?_
              refine lv_iconst (v := 1) hx hb dX1_takesDigit_111 (by decide) ?_
              refine lv_iadd hx hb dX1_takesDigit_112 ?_
              refine lv_eqi (nI (tl + 1)) (nI_add tl 1) ?_
              refine va_put (D := D) (ci := 1) (v := .int (nI (tl + 1))) (ty := .int) (C := RX1) (T := TX1) (N := 6) hx hb hts hi1 tyX1 tyX1_ok nmX1 hown hK hP hD hS 0 rfl rfl 3 (by decide) (hts (.fieldLink RX1 19 "PairedChannels$ValuesText" "told" "I") (List.mem_of_getElem? (i := 3) (by decide +kernel))) (fun _ h9 => h9) rfl (by decide +kernel) (rfl) (rfl) (Nat.le_of_ble_eq_true rfl) dX1_takesDigit_113 (fun H locs hP hD hS => ?_)
              have hP : va_P D vwCl [(t0, .inr (1, [.ref t1, .int (nI ln), .ref t2, .int (nI (tl + 1)), .int (nI aw), .int (if ng = true then 1 else 0)])), (t2, .inl (K 0, 16, .inl (upd vs tl (if ng = true then (-d) else d))))] _ := hP
              have hD : va_D A [(t0, .inr (1, [.ref t1, .int (nI ln), .ref t2, .int (nI (tl + 1)), .int (nI aw), .int (if ng = true then 1 else 0)])), (t2, .inl (K 0, 16, .inl (upd vs tl (if ng = true then (-d) else d))))] := hD
              refine lv_aload_n hx hb dX1_takesDigit_116 rfl (lv_at hl 1 rfl) ?_
              refine lv_iload_n hx hb dX1_takesDigit_117 rfl (lv_at hl 2 rfl) ?_
              refine g_cut (F0 mm 126 ls [.int (if d = 0 then 3 else 2), .ref t0]) (fun hJ => ?_) ?_
              · refine lv_if_ne (tgt := 125) hx hb dX1_takesDigit_118 (by decide) (fun c23 => ?_) (fun c23 => ?_)
                · skip
                  refine lv_iconst (v := 2) hx hb dX1_takesDigit_125 (by decide) ?_
                  refine lv_eqi ((if d = 0 then 3 else 2)) (if_neg c23).symm ?_
                  exact hJ
                · skip
                  refine lv_iconst (v := 3) hx hb dX1_takesDigit_121 (by decide) ?_
                  refine lv_goto (tgt := 126) hx hb dX1_takesDigit_122 (by decide) ?_
                  refine lv_eqi ((if d = 0 then 3 else 2)) (if_pos c23).symm ?_
                  exact hJ
              · skip
                refine lv_eqi (nI (if d = 0 then 3 else 2)) (nI_if32 _) ?_
                refine va_put (D := D) (ci := 1) (v := .int (nI (if d = 0 then 3 else 2))) (ty := .int) (C := RX1) (T := TX1) (N := 6) hx hb hts hi1 tyX1 tyX1_ok nmX1 hown hK hP hD hS 0 rfl rfl 4 (by decide) (hts (.fieldLink RX1 23 "PairedChannels$ValuesText" "awaited" "I") (List.mem_of_getElem? (i := 2) (by decide +kernel))) (fun _ h9 => h9) rfl (by decide +kernel) (rfl) (rfl) (Nat.le_of_ble_eq_true rfl) dX1_takesDigit_126 (fun H locs hP hD hS => ?_)
                have hP : va_P D vwCl [(t0, .inr (1, [.ref t1, .int (nI ln), .ref t2, .int (nI (tl + 1)), .int (nI (if d = 0 then 3 else 2)), .int (if ng = true then 1 else 0)])), (t2, .inl (K 0, 16, .inl (upd vs tl (if ng = true then (-d) else d))))] _ := hP
                have hD : va_D A [(t0, .inr (1, [.ref t1, .int (nI ln), .ref t2, .int (nI (tl + 1)), .int (nI (if d = 0 then 3 else 2)), .int (if ng = true then 1 else 0)])), (t2, .inl (K 0, 16, .inl (upd vs tl (if ng = true then (-d) else d))))] := hD
                refine lv_iconst (v := 1) hx hb dX1_takesDigit_129 (by decide) ?_
                exact gW_iret (v := 1) (if d = 0 then 3 else 2, ng, tl + 1, upd vs tl (if ng = true then (-d) else d)) hx hb hr hlk (rfl) hK hP hD hS (by unfold stD; first | (rw [if_pos (by omega)]; exact Or.inl ⟨rfl, rfl⟩) | (rw [if_neg (by omega), if_pos (by omega)]; exact Or.inl ⟨rfl, rfl⟩) | (rw [if_neg (by omega), if_neg (by omega)]; exact Or.inr ⟨rfl, rfl, rfl⟩)) dX1_takesDigit_130
          · skip
            have c21 : ¬ aw = 0 := fun h9 => c21 ((nI_eq (a := aw) (b := 0) (by omega) (by omega)).mpr h9)
            refine lv_aload_n hx hb dX1_takesDigit_79 rfl (lv_at hl 1 rfl) ?_
            refine va_get (D := D) (ci := 1) (v := .int (nI aw)) (C := RX1) (T := TX1) (N := 6) hx hb hts hi1 hown hK hP 0 rfl rfl 4 (by decide) (hts (.fieldLink RX1 23 "PairedChannels$ValuesText" "awaited" "I") (List.mem_of_getElem? (i := 2) (by decide +kernel))) (fun _ h9 => h9) rfl dX1_takesDigit_80 ?_
            refine lv_iconst (v := 1) hx hb dX1_takesDigit_83 (by decide) ?_
            refine lv_icmp_ne (tgt := 131) hx hb dX1_takesDigit_84 (by decide) (fun c25 => ?_) (fun c25 => ?_)
            · skip
              have c25 : ¬ aw = 1 := fun h9 => c25 ((nI_eq (a := aw) (b := 1) (by omega) (by omega)).mpr h9)
              refine lv_iconst (v := 0) hx hb dX1_takesDigit_131 (by decide) ?_
              exact gW_iret (v := 0) (aw, ng, tl, vs) hx hb hr hlk (rfl) hK hP hD hS (by unfold stD; first | (rw [if_pos (by omega)]; exact Or.inl ⟨rfl, rfl⟩) | (rw [if_neg (by omega), if_pos (by omega)]; exact Or.inl ⟨rfl, rfl⟩) | (rw [if_neg (by omega), if_neg (by omega)]; exact Or.inr ⟨rfl, rfl, rfl⟩)) dX1_takesDigit_132
            · skip
              have c25 : aw = 1 := (nI_eq (a := aw) (b := 1) (by omega) (by omega)).mp c25
              refine lv_aload_n hx hb dX1_takesDigit_87 rfl (lv_at hl 1 rfl) ?_
              refine va_get (D := D) (ci := 1) (v := .int (nI tl)) (C := RX1) (T := TX1) (N := 6) hx hb hts hi1 hown hK hP 0 rfl rfl 3 (by decide) (hts (.fieldLink RX1 19 "PairedChannels$ValuesText" "told" "I") (List.mem_of_getElem? (i := 3) (by decide +kernel))) (fun _ h9 => h9) rfl dX1_takesDigit_88 ?_
              refine lv_bipush (v := 16) hx hb dX1_takesDigit_91 (by decide) ?_
              refine lv_icmp_ge (tgt := 131) hx hb dX1_takesDigit_93 (by decide) (fun c26 => ?_) (fun c26 => ?_)
              · skip
                have c26 : 16 ≤ tl := (nI_leI (a := 16) (b := tl) (by omega) (by omega)).mp c26
                refine lv_iconst (v := 0) hx hb dX1_takesDigit_131 (by decide) ?_
                exact gW_iret (v := 0) (aw, ng, tl, vs) hx hb hr hlk (rfl) hK hP hD hS (by unfold stD; first | (rw [if_pos (by omega)]; exact Or.inl ⟨rfl, rfl⟩) | (rw [if_neg (by omega), if_pos (by omega)]; exact Or.inl ⟨rfl, rfl⟩) | (rw [if_neg (by omega), if_neg (by omega)]; exact Or.inr ⟨rfl, rfl, rfl⟩)) dX1_takesDigit_132
              · skip
                have c26 : ¬ 16 ≤ tl := fun h9 => c26 ((nI_leI (a := 16) (b := tl) (by omega) (by omega)).mpr h9)
                refine lv_aload_n hx hb dX1_takesDigit_96 rfl (lv_at hl 1 rfl) ?_
                refine va_get (D := D) (ci := 1) (v := .ref t2) (C := RX1) (T := TX1) (N := 6) hx hb hts hi1 hown hK hP 0 rfl rfl 2 (by decide) (hts (.fieldLink RX1 15 "PairedChannels$ValuesText" "values" "[I") (List.mem_of_getElem? (i := 4) (by decide +kernel))) (fun _ h9 => h9) rfl dX1_takesDigit_97 ?_
                refine lv_aload_n hx hb dX1_takesDigit_100 rfl (lv_at hl 1 rfl) ?_
                refine va_get (D := D) (ci := 1) (v := .int (nI tl)) (C := RX1) (T := TX1) (N := 6) hx hb hts hi1 hown hK hP 0 rfl rfl 3 (by decide) (hts (.fieldLink RX1 19 "PairedChannels$ValuesText" "told" "I") (List.mem_of_getElem? (i := 3) (by decide +kernel))) (fun _ h9 => h9) rfl dX1_takesDigit_101 ?_
                refine lv_iload_n hx hb dX1_takesDigit_104 rfl (lv_at hl 0 rfl) ?_
                refine wa_iast (x := (if ng = true then (-d) else d)) hx hb hK hP hD hS 1 0 rfl rfl (tl) rfl (by omega) (by decide) dX1_takesDigit_105 (fun H locs hP hD hS => ?_)
                have hP : va_P D vwCl [(t0, .inr (1, [.ref t1, .int (nI ln), .ref t2, .int (nI tl), .int (nI aw), .int (if ng = true then 1 else 0)])), (t2, .inl (K 0, 16, .inl (upd vs tl (if ng = true then (-d) else d))))] _ := hP
                have hD : va_D A [(t0, .inr (1, [.ref t1, .int (nI ln), .ref t2, .int (nI tl), .int (nI aw), .int (if ng = true then 1 else 0)])), (t2, .inl (K 0, 16, .inl (upd vs tl (if ng = true then (-d) else d))))] := hD
                refine lv_aload_n hx hb dX1_takesDigit_106 rfl (lv_at hl 1 rfl) ?_
                refine lv_dup hx hb dX1_takesDigit_107 rfl ?_
                refine va_get (D := D) (ci := 1) (v := .int (nI tl)) (C := RX1) (T := TX1) (N := 6) hx hb hts hi1 hown hK hP 0 rfl rfl 3 (by decide) (hts (.fieldLink RX1 19 "PairedChannels$ValuesText" "told" "I") (List.mem_of_getElem? (i := 3) (by decide +kernel))) (fun _ h9 => h9) rfl dX1_takesDigit_108 ?_
                refine lv_iconst (v := 1) hx hb dX1_takesDigit_111 (by decide) ?_
                refine lv_iadd hx hb dX1_takesDigit_112 ?_
                refine lv_eqi (nI (tl + 1)) (nI_add tl 1) ?_
                refine va_put (D := D) (ci := 1) (v := .int (nI (tl + 1))) (ty := .int) (C := RX1) (T := TX1) (N := 6) hx hb hts hi1 tyX1 tyX1_ok nmX1 hown hK hP hD hS 0 rfl rfl 3 (by decide) (hts (.fieldLink RX1 19 "PairedChannels$ValuesText" "told" "I") (List.mem_of_getElem? (i := 3) (by decide +kernel))) (fun _ h9 => h9) rfl (by decide +kernel) (rfl) (rfl) (Nat.le_of_ble_eq_true rfl) dX1_takesDigit_113 (fun H locs hP hD hS => ?_)
                have hP : va_P D vwCl [(t0, .inr (1, [.ref t1, .int (nI ln), .ref t2, .int (nI (tl + 1)), .int (nI aw), .int (if ng = true then 1 else 0)])), (t2, .inl (K 0, 16, .inl (upd vs tl (if ng = true then (-d) else d))))] _ := hP
                have hD : va_D A [(t0, .inr (1, [.ref t1, .int (nI ln), .ref t2, .int (nI (tl + 1)), .int (nI aw), .int (if ng = true then 1 else 0)])), (t2, .inl (K 0, 16, .inl (upd vs tl (if ng = true then (-d) else d))))] := hD
                refine lv_aload_n hx hb dX1_takesDigit_116 rfl (lv_at hl 1 rfl) ?_
                refine lv_iload_n hx hb dX1_takesDigit_117 rfl (lv_at hl 2 rfl) ?_
                refine g_cut (F0 mm 126 ls [.int (if d = 0 then 3 else 2), .ref t0]) (fun hJ => ?_) ?_
                · refine lv_if_ne (tgt := 125) hx hb dX1_takesDigit_118 (by decide) (fun c27 => ?_) (fun c27 => ?_)
                  · skip
                    refine lv_iconst (v := 2) hx hb dX1_takesDigit_125 (by decide) ?_
                    refine lv_eqi ((if d = 0 then 3 else 2)) (if_neg c27).symm ?_
                    exact hJ
                  · skip
                    refine lv_iconst (v := 3) hx hb dX1_takesDigit_121 (by decide) ?_
                    refine lv_goto (tgt := 126) hx hb dX1_takesDigit_122 (by decide) ?_
                    refine lv_eqi ((if d = 0 then 3 else 2)) (if_pos c27).symm ?_
                    exact hJ
                · skip
                  refine lv_eqi (nI (if d = 0 then 3 else 2)) (nI_if32 _) ?_
                  refine va_put (D := D) (ci := 1) (v := .int (nI (if d = 0 then 3 else 2))) (ty := .int) (C := RX1) (T := TX1) (N := 6) hx hb hts hi1 tyX1 tyX1_ok nmX1 hown hK hP hD hS 0 rfl rfl 4 (by decide) (hts (.fieldLink RX1 23 "PairedChannels$ValuesText" "awaited" "I") (List.mem_of_getElem? (i := 2) (by decide +kernel))) (fun _ h9 => h9) rfl (by decide +kernel) (rfl) (rfl) (Nat.le_of_ble_eq_true rfl) dX1_takesDigit_126 (fun H locs hP hD hS => ?_)
                  have hP : va_P D vwCl [(t0, .inr (1, [.ref t1, .int (nI ln), .ref t2, .int (nI (tl + 1)), .int (nI (if d = 0 then 3 else 2)), .int (if ng = true then 1 else 0)])), (t2, .inl (K 0, 16, .inl (upd vs tl (if ng = true then (-d) else d))))] _ := hP
                  have hD : va_D A [(t0, .inr (1, [.ref t1, .int (nI ln), .ref t2, .int (nI (tl + 1)), .int (nI (if d = 0 then 3 else 2)), .int (if ng = true then 1 else 0)])), (t2, .inl (K 0, 16, .inl (upd vs tl (if ng = true then (-d) else d))))] := hD
                  refine lv_iconst (v := 1) hx hb dX1_takesDigit_129 (by decide) ?_
                  exact gW_iret (v := 1) (if d = 0 then 3 else 2, ng, tl + 1, upd vs tl (if ng = true then (-d) else d)) hx hb hr hlk (rfl) hK hP hD hS (by unfold stD; first | (rw [if_pos (by omega)]; exact Or.inl ⟨rfl, rfl⟩) | (rw [if_neg (by omega), if_pos (by omega)]; exact Or.inl ⟨rfl, rfl⟩) | (rw [if_neg (by omega), if_neg (by omega)]; exact Or.inr ⟨rfl, rfl, rfl⟩)) dX1_takesDigit_130
        · skip
          have c20 : ¬ 16 < tl := fun h9 => c20 ((nI_ltI (a := 16) (b := tl) (by omega) (by omega)).mpr h9)
          refine lv_aload_n hx hb dX1_takesDigit_38 rfl (lv_at hl 1 rfl) ?_
          refine va_get (D := D) (ci := 1) (v := .ref t2) (C := RX1) (T := TX1) (N := 6) hx hb hts hi1 hown hK hP 0 rfl rfl 2 (by decide) (hts (.fieldLink RX1 15 "PairedChannels$ValuesText" "values" "[I") (List.mem_of_getElem? (i := 4) (by decide +kernel))) (fun _ h9 => h9) rfl dX1_takesDigit_39 ?_
          refine lv_aload_n hx hb dX1_takesDigit_42 rfl (lv_at hl 1 rfl) ?_
          refine va_get (D := D) (ci := 1) (v := .int (nI tl)) (C := RX1) (T := TX1) (N := 6) hx hb hts hi1 hown hK hP 0 rfl rfl 3 (by decide) (hts (.fieldLink RX1 19 "PairedChannels$ValuesText" "told" "I") (List.mem_of_getElem? (i := 3) (by decide +kernel))) (fun _ h9 => h9) rfl dX1_takesDigit_43 ?_
          refine lv_iconst (v := 1) hx hb dX1_takesDigit_46 (by decide) ?_
          refine lv_isub hx hb dX1_takesDigit_47 ?_
          refine lv_eqi (nI (tl - 1)) (pk_sub (a := tl) (b := 1) (by omega)) ?_
          refine lv_aload_n hx hb dX1_takesDigit_48 rfl (lv_at hl 1 rfl) ?_
          refine va_get (D := D) (ci := 1) (v := .ref t2) (C := RX1) (T := TX1) (N := 6) hx hb hts hi1 hown hK hP 0 rfl rfl 2 (by decide) (hts (.fieldLink RX1 15 "PairedChannels$ValuesText" "values" "[I") (List.mem_of_getElem? (i := 4) (by decide +kernel))) (fun _ h9 => h9) rfl dX1_takesDigit_49 ?_
          refine lv_aload_n hx hb dX1_takesDigit_52 rfl (lv_at hl 1 rfl) ?_
          refine va_get (D := D) (ci := 1) (v := .int (nI tl)) (C := RX1) (T := TX1) (N := 6) hx hb hts hi1 hown hK hP 0 rfl rfl 3 (by decide) (hts (.fieldLink RX1 19 "PairedChannels$ValuesText" "told" "I") (List.mem_of_getElem? (i := 3) (by decide +kernel))) (fun _ h9 => h9) rfl dX1_takesDigit_53 ?_
          refine lv_iconst (v := 1) hx hb dX1_takesDigit_56 (by decide) ?_
          refine lv_isub hx hb dX1_takesDigit_57 ?_
          refine lv_eqi (nI (tl - 1)) (pk_sub (a := tl) (b := 1) (by omega)) ?_
          refine wa_iald hx hb hK hP 1 0 rfl rfl (tl - 1) rfl (by omega) (by decide) dX1_takesDigit_58 ?_
          refine lv_bipush (v := 10) hx hb dX1_takesDigit_59 (by decide) ?_
          refine lv_imul hx hb dX1_takesDigit_61 ?_
          refine lv_iload_n hx hb dX1_takesDigit_62 rfl (lv_at hl 0 rfl) ?_
          refine lv_iadd hx hb dX1_takesDigit_63 ?_
          refine wa_iast (x := ((vs (tl - 1) * 10) + (if ng = true then (-d) else d))) hx hb hK hP hD hS 1 0 rfl rfl (tl - 1) rfl (by omega) (by decide) dX1_takesDigit_64 (fun H locs hP hD hS => ?_)
          have hP : va_P D vwCl [(t0, .inr (1, [.ref t1, .int (nI ln), .ref t2, .int (nI tl), .int (nI aw), .int (if ng = true then 1 else 0)])), (t2, .inl (K 0, 16, .inl (upd vs (tl - 1) ((vs (tl - 1) * 10) + (if ng = true then (-d) else d)))))] _ := hP
          have hD : va_D A [(t0, .inr (1, [.ref t1, .int (nI ln), .ref t2, .int (nI tl), .int (nI aw), .int (if ng = true then 1 else 0)])), (t2, .inl (K 0, 16, .inl (upd vs (tl - 1) ((vs (tl - 1) * 10) + (if ng = true then (-d) else d)))))] := hD
          refine lv_aload_n hx hb dX1_takesDigit_65 rfl (lv_at hl 1 rfl) ?_
          refine lv_iconst (v := 3) hx hb dX1_takesDigit_66 (by decide) ?_
          refine va_put (D := D) (ci := 1) (v := .int 3) (ty := .int) (C := RX1) (T := TX1) (N := 6) hx hb hts hi1 tyX1 tyX1_ok nmX1 hown hK hP hD hS 0 rfl rfl 4 (by decide) (hts (.fieldLink RX1 23 "PairedChannels$ValuesText" "awaited" "I") (List.mem_of_getElem? (i := 2) (by decide +kernel))) (fun _ h9 => h9) rfl (by decide +kernel) (rfl) (rfl) (Nat.le_of_ble_eq_true rfl) dX1_takesDigit_67 (fun H locs hP hD hS => ?_)
          have hP : va_P D vwCl [(t0, .inr (1, [.ref t1, .int (nI ln), .ref t2, .int (nI tl), .int 3, .int (if ng = true then 1 else 0)])), (t2, .inl (K 0, 16, .inl (upd vs (tl - 1) ((vs (tl - 1) * 10) + (if ng = true then (-d) else d)))))] _ := hP
          have hD : va_D A [(t0, .inr (1, [.ref t1, .int (nI ln), .ref t2, .int (nI tl), .int 3, .int (if ng = true then 1 else 0)])), (t2, .inl (K 0, 16, .inl (upd vs (tl - 1) ((vs (tl - 1) * 10) + (if ng = true then (-d) else d)))))] := hD
          refine lv_iconst (v := 1) hx hb dX1_takesDigit_70 (by decide) ?_
          exact gW_iret (v := 1) (3, ng, tl, upd vs (tl - 1) ((vs (tl - 1) * 10) + (if ng = true then (-d) else d))) hx hb hr hlk (rfl) hK hP hD hS (by unfold stD; first | (rw [if_pos (by omega)]; exact Or.inl ⟨rfl, rfl⟩) | (rw [if_neg (by omega), if_pos (by omega)]; exact Or.inl ⟨rfl, rfl⟩) | (rw [if_neg (by omega), if_neg (by omega)]; exact Or.inr ⟨rfl, rfl, rfl⟩)) dX1_takesDigit_71
