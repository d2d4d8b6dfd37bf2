set_option maxHeartbeats 4000000 in
set_option maxRecDepth 100000 in
theorem c_X1_takes (l : Launch) (D : va_G) (K : Nat → ClassId) (t0 : Nat) (t1 : Nat) (t2 : Nat) (ln : Nat) (tl : Nat) (aw : Nat) (ng : Bool) (vs : Nat → Int32) (c : Int32) (haw : aw ≤ 3) (htl : tl ≤ 16) : MWi l yX1_takes wsX1_takes ({ frames := 2, cells := 0, slots := 0, locals := 40 } : Room) D (gTy K) [.ref t0, .int c] [(t0, .inr (1, [.ref t1, .int (nI ln), .ref t2, .int (nI tl), .int (nI aw), .int (if ng = true then 1 else 0)])), (t2, .inl (K 0, 16, .inl vs))] (fun (u : TS) => [(t0, .inr (1, [.ref t1, .int (nI ln), .ref t2, .int (nI u.2.2.1), .int (nI u.1), .int (if u.2.1 = true then 1 else 0)])), (t2, .inl (K 0, 16, .inl u.2.2.2))]) (fun r (u : TS) => (r = 1 ∧ stp (aw, ng, tl, vs) c = some u) ∨ (r = 0 ∧ stp (aw, ng, tl, vs) c = none ∧ u = (aw, ng, tl, vs))) 0 0 := by
  refine g_ofW (Qc := fun A => va_Qi _ (gB D (gTy K) A _) A) (cc := cX1_takes) (maxL := 2) (ret := (some .boolean)) (own := RX1) (by decide) rfl rfl (Nat.le_of_ble_eq_true rfl) ?_
  intro pp ee s mm below meth cc A hfx hnm hK hP hD hE hS hA ls hl
  obtain ⟨hx, hb, hr, hml, hown, hts, hlk⟩ := hfx
  have hl : lv_has ls 2 [(0, .ref t0), (1, .int c)] := hl
  refine lv_iload_n hx hb dX1_takes_0 rfl (lv_at hl 1 rfl) ?_
  refine lv_bipush (v := 44) hx hb dX1_takes_1 (by decide) ?_
  refine lv_icmp_ne (tgt := 11) hx hb dX1_takes_3 (by decide) (fun c3 => ?_) (fun c3 => ?_)
  · skip
    refine lv_iload_n hx hb dX1_takes_11 rfl (lv_at hl 1 rfl) ?_
    refine lv_bipush (v := 45) hx hb dX1_takes_12 (by decide) ?_
    refine lv_icmp_ne (tgt := 22) hx hb dX1_takes_14 (by decide) (fun c14 => ?_) (fun c14 => ?_)
    · skip
      refine lv_iload_n hx hb dX1_takes_22 rfl (lv_at hl 1 rfl) ?_
      refine lv_bipush (v := 48) hx hb dX1_takes_23 (by decide) ?_
      refine lv_icmp_lt (tgt := 49) hx hb dX1_takes_25 (by decide) (fun c25 => ?_) (fun c25 => ?_)
      · skip
        refine lv_iconst (v := 0) hx hb dX1_takes_49 (by decide) ?_
        exact gW_iret (v := 0) (aw, ng, tl, vs) hx hb hr hlk (rfl) hK hP hD hS (by unfold stp; first | (rw [if_pos c3]; exact hz) | (rw [if_neg c3, if_pos c14]; exact hz) | (rw [if_neg c3, if_neg c14, if_pos ⟨Int32.not_lt.mp c25, Int32.not_lt.mp c31⟩]; rcases hz with q | q; exact Or.inl ⟨rfl, q.2⟩; exact absurd q.1 c42) | (rw [if_neg c3, if_neg c14, if_pos ⟨Int32.not_lt.mp c25, Int32.not_lt.mp c31⟩]; rcases hz with q | q; exact absurd (q.1.symm.trans c42) (by decide); exact Or.inr ⟨rfl, q.2⟩) | exact Or.inr ⟨rfl, by (first | exact (g_in c3 (g_in c14 (g_in (fun h => absurd c25 (Int32.not_lt.mpr h.1)) rfl))) | exact (g_tn c3 (g_tn c14 (g_tn (fun h => absurd c25 (Int32.not_lt.mpr h.1)) rfl))) | exact (g_an c3 (g_an c14 (g_an (fun h => absurd c25 (Int32.not_lt.mpr h.1)) rfl)))), rfl⟩ | exact Or.inr ⟨rfl, by (first | exact (g_in c3 (g_in c14 (g_in (fun h => absurd c31 (Int32.not_lt.mpr h.2)) rfl))) | exact (g_tn c3 (g_tn c14 (g_tn (fun h => absurd c31 (Int32.not_lt.mpr h.2)) rfl))) | exact (g_an c3 (g_an c14 (g_an (fun h => absurd c31 (Int32.not_lt.mpr h.2)) rfl)))), rfl⟩) dX1_takes_50
      · skip
        refine lv_iload_n hx hb dX1_takes_28 rfl (lv_at hl 1 rfl) ?_
        refine lv_bipush (v := 57) hx hb dX1_takes_29 (by decide) ?_
        refine lv_icmp_gt (tgt := 49) hx hb dX1_takes_31 (by decide) (fun c31 => ?_) (fun c31 => ?_)
        · skip
          refine lv_iconst (v := 0) hx hb dX1_takes_49 (by decide) ?_
          exact gW_iret (v := 0) (aw, ng, tl, vs) hx hb hr hlk (rfl) hK hP hD hS (by unfold stp; first | (rw [if_pos c3]; exact hz) | (rw [if_neg c3, if_pos c14]; exact hz) | (rw [if_neg c3, if_neg c14, if_pos ⟨Int32.not_lt.mp c25, Int32.not_lt.mp c31⟩]; rcases hz with q | q; exact Or.inl ⟨rfl, q.2⟩; exact absurd q.1 c42) | (rw [if_neg c3, if_neg c14, if_pos ⟨Int32.not_lt.mp c25, Int32.not_lt.mp c31⟩]; rcases hz with q | q; exact absurd (q.1.symm.trans c42) (by decide); exact Or.inr ⟨rfl, q.2⟩) | exact Or.inr ⟨rfl, by (first | exact (g_in c3 (g_in c14 (g_in (fun h => absurd c25 (Int32.not_lt.mpr h.1)) rfl))) | exact (g_tn c3 (g_tn c14 (g_tn (fun h => absurd c25 (Int32.not_lt.mpr h.1)) rfl))) | exact (g_an c3 (g_an c14 (g_an (fun h => absurd c25 (Int32.not_lt.mpr h.1)) rfl)))), rfl⟩ | exact Or.inr ⟨rfl, by (first | exact (g_in c3 (g_in c14 (g_in (fun h => absurd c31 (Int32.not_lt.mpr h.2)) rfl))) | exact (g_tn c3 (g_tn c14 (g_tn (fun h => absurd c31 (Int32.not_lt.mpr h.2)) rfl))) | exact (g_an c3 (g_an c14 (g_an (fun h => absurd c31 (Int32.not_lt.mpr h.2)) rfl)))), rfl⟩) dX1_takes_50
        · skip
          refine lv_aload_n hx hb dX1_takes_34 rfl (lv_at hl 0 rfl) ?_
          refine lv_iload_n hx hb dX1_takes_35 rfl (lv_at hl 1 rfl) ?_
          refine lv_bipush (v := 48) hx hb dX1_takes_36 (by decide) ?_
          refine lv_isub hx hb dX1_takes_38 ?_
          refine gW_i (wr := []) (W2 := (fun (u : TS) => [(t0, .inr (1, [.ref t1, .int (nI ln), .ref t2, .int (nI u.2.2.1), .int (nI u.1), .int (if u.2.1 = true then 1 else 0)])), (t2, .inl (K 0, 16, .inl u.2.2.2))])) (va_runV (As := [.int (c - 48)]) (rest := []) ⟨hx, hb, hml, hown, hts⟩ ((c_X1_takesDigit l D K t0 t1 t2 ln tl aw ng vs (c - 48) (by first | assumption | omega) (by first | assumption | omega)) _) (cwV 1 hts gX1_takes_X1_takesDigit rfl rfl rfl (by decide +kernel) ⟨Nat.le_of_ble_eq_true rfl, Nat.le_of_ble_eq_true rfl⟩) (gW_preV hE hS hK hP hD hA [0, 1] rfl (by decide) 0 rfl rfl rfl) rfl rfl hl.1 rfl (lv_room (Nat.le_of_ble_eq_true rfl)) dX1_takes_39 ⟨Nat.le_of_ble_eq_true rfl, Nat.le_of_ble_eq_true rfl⟩) hS hP hD hA [0, 1] [] [0, 1] rfl rfl (by decide) (by decide) (by decide) (fun _ => rfl) (fun rv7 u5 H locs h6 hP hD hS => ?_)
          have hP : va_P D vwCl [(t0, .inr (1, [.ref t1, .int (nI ln), .ref t2, .int (nI u5.2.2.1), .int (nI u5.1), .int (if u5.2.1 = true then 1 else 0)])), (t2, .inl (K 0, 16, .inl u5.2.2.2))] _ := hP
          have hD : va_D A [(t0, .inr (1, [.ref t1, .int (nI ln), .ref t2, .int (nI u5.2.2.1), .int (nI u5.1), .int (if u5.2.1 = true then 1 else 0)])), (t2, .inl (K 0, 16, .inl u5.2.2.2))] := hD
          have h6 : (rv7 = 1 ∧ stD (c - 48) aw ng tl vs = some u5) ∨ (rv7 = 0 ∧ stD (c - 48) aw ng tl vs = none ∧ u5 = (aw, ng, tl, vs)) := h6
          refine lv_if_eq (tgt := 49) hx hb dX1_takes_42 (by decide) (fun c42 => ?_) (fun c42 => ?_)
          · skip
            refine lv_iconst (v := 0) hx hb dX1_takes_49 (by decide) ?_
            exact gW_iret (v := 0) (u5.1, u5.2.1, u5.2.2.1, u5.2.2.2) hx hb hr hlk (rfl) hK hP hD hS (by unfold stp; first | (rw [if_pos c3]; exact h6) | (rw [if_neg c3, if_pos c14]; exact h6) | (rw [if_neg c3, if_neg c14, if_pos ⟨Int32.not_lt.mp c25, Int32.not_lt.mp c31⟩]; rcases h6 with q | q; exact Or.inl ⟨rfl, q.2⟩; exact absurd q.1 c42) | (rw [if_neg c3, if_neg c14, if_pos ⟨Int32.not_lt.mp c25, Int32.not_lt.mp c31⟩]; rcases h6 with q | q; exact absurd (q.1.symm.trans c42) (by decide); exact Or.inr ⟨rfl, q.2⟩) | exact Or.inr ⟨rfl, by (first | exact (g_in c3 (g_in c14 (g_in (fun h => absurd c25 (Int32.not_lt.mpr h.1)) rfl))) | exact (g_tn c3 (g_tn c14 (g_tn (fun h => absurd c25 (Int32.not_lt.mpr h.1)) rfl))) | exact (g_an c3 (g_an c14 (g_an (fun h => absurd c25 (Int32.not_lt.mpr h.1)) rfl)))), rfl⟩ | exact Or.inr ⟨rfl, by (first | exact (g_in c3 (g_in c14 (g_in (fun h => absurd c31 (Int32.not_lt.mpr h.2)) rfl))) | exact (g_tn c3 (g_tn c14 (g_tn (fun h => absurd c31 (Int32.not_lt.mpr h.2)) rfl))) | exact (g_an c3 (g_an c14 (g_an (fun h => absurd c31 (Int32.not_lt.mpr h.2)) rfl)))), rfl⟩) dX1_takes_50
          · skip
            refine lv_iconst (v := 1) hx hb dX1_takes_45 (by decide) ?_
            refine lv_goto (tgt := 50) hx hb dX1_takes_46 (by decide) ?_
            exact gW_iret (v := 1) (u5.1, u5.2.1, u5.2.2.1, u5.2.2.2) hx hb hr hlk (rfl) hK hP hD hS (by unfold stp; first | (rw [if_pos c3]; exact h6) | (rw [if_neg c3, if_pos c14]; exact h6) | (rw [if_neg c3, if_neg c14, if_pos ⟨Int32.not_lt.mp c25, Int32.not_lt.mp c31⟩]; rcases h6 with q | q; exact Or.inl ⟨rfl, q.2⟩; exact absurd q.1 c42) | (rw [if_neg c3, if_neg c14, if_pos ⟨Int32.not_lt.mp c25, Int32.not_lt.mp c31⟩]; rcases h6 with q | q; exact absurd (q.1.symm.trans c42) (by decide); exact Or.inr ⟨rfl, q.2⟩) | exact Or.inr ⟨rfl, by (first | exact (g_in c3 (g_in c14 (g_in (fun h => absurd c25 (Int32.not_lt.mpr h.1)) rfl))) | exact (g_tn c3 (g_tn c14 (g_tn (fun h => absurd c25 (Int32.not_lt.mpr h.1)) rfl))) | exact (g_an c3 (g_an c14 (g_an (fun h => absurd c25 (Int32.not_lt.mpr h.1)) rfl)))), rfl⟩ | exact Or.inr ⟨rfl, by (first | exact (g_in c3 (g_in c14 (g_in (fun h => absurd c31 (Int32.not_lt.mpr h.2)) rfl))) | exact (g_tn c3 (g_tn c14 (g_tn (fun h => absurd c31 (Int32.not_lt.mpr h.2)) rfl))) | exact (g_an c3 (g_an c14 (g_an (fun h => absurd c31 (Int32.not_lt.mpr h.2)) rfl)))), rfl⟩) dX1_takes_50
    · skip
      refine lv_aload_n hx hb dX1_takes_17 rfl (lv_at hl 0 rfl) ?_
      refine gW_i (wr := []) (W2 := (fun (u : TS) => [(t0, .inr (1, [.ref t1, .int (nI ln), .ref t2, .int (nI u.2.2.1), .int (nI u.1), .int (if u.2.1 = true then 1 else 0)])), (t2, .inl (K 0, 16, .inl u.2.2.2))])) (va_runV (As := []) (rest := []) ⟨hx, hb, hml, hown, hts⟩ ((c_X1_takesMinus l D K t0 t1 t2 ln tl aw ng vs (by first | assumption | omega) (by first | assumption | omega)) _) (cwV 0 hts gX1_takes_X1_takesMinus rfl rfl rfl (by decide +kernel) ⟨Nat.le_of_ble_eq_true rfl, Nat.le_of_ble_eq_true rfl⟩) (gW_preV hE hS hK hP hD hA [0, 1] rfl (by decide) 0 rfl rfl rfl) rfl rfl hl.1 rfl (lv_room (Nat.le_of_ble_eq_true rfl)) dX1_takes_18 ⟨Nat.le_of_ble_eq_true rfl, Nat.le_of_ble_eq_true rfl⟩) hS hP hD hA [0, 1] [] [0, 1] rfl rfl (by decide) (by decide) (by decide) (fun _ => rfl) (fun rv11 u9 H locs h10 hP hD hS => ?_)
      have hP : va_P D vwCl [(t0, .inr (1, [.ref t1, .int (nI ln), .ref t2, .int (nI u9.2.2.1), .int (nI u9.1), .int (if u9.2.1 = true then 1 else 0)])), (t2, .inl (K 0, 16, .inl u9.2.2.2))] _ := hP
      have hD : va_D A [(t0, .inr (1, [.ref t1, .int (nI ln), .ref t2, .int (nI u9.2.2.1), .int (nI u9.1), .int (if u9.2.1 = true then 1 else 0)])), (t2, .inl (K 0, 16, .inl u9.2.2.2))] := hD
      have h10 : (rv11 = 1 ∧ stM aw ng tl vs = some u9) ∨ (rv11 = 0 ∧ stM aw ng tl vs = none ∧ u9 = (aw, ng, tl, vs)) := h10
      exact gW_iret (v := rv11) (u9.1, u9.2.1, u9.2.2.1, u9.2.2.2) hx hb hr hlk (ret_nar h10) hK hP hD hS (by unfold stp; first | (rw [if_pos c3]; exact h10) | (rw [if_neg c3, if_pos c14]; exact h10) | (rw [if_neg c3, if_neg c14, if_pos ⟨Int32.not_lt.mp c25, Int32.not_lt.mp c31⟩]; rcases h10 with q | q; exact Or.inl ⟨rfl, q.2⟩; exact absurd q.1 c42) | (rw [if_neg c3, if_neg c14, if_pos ⟨Int32.not_lt.mp c25, Int32.not_lt.mp c31⟩]; rcases h10 with q | q; exact absurd (q.1.symm.trans c42) (by decide); exact Or.inr ⟨rfl, q.2⟩) | exact Or.inr ⟨rfl, by (first | exact (g_in c3 (g_in c14 (g_in (fun h => absurd c25 (Int32.not_lt.mpr h.1)) rfl))) | exact (g_tn c3 (g_tn c14 (g_tn (fun h => absurd c25 (Int32.not_lt.mpr h.1)) rfl))) | exact (g_an c3 (g_an c14 (g_an (fun h => absurd c25 (Int32.not_lt.mpr h.1)) rfl)))), rfl⟩ | exact Or.inr ⟨rfl, by (first | exact (g_in c3 (g_in c14 (g_in (fun h => absurd c31 (Int32.not_lt.mpr h.2)) rfl))) | exact (g_tn c3 (g_tn c14 (g_tn (fun h => absurd c31 (Int32.not_lt.mpr h.2)) rfl))) | exact (g_an c3 (g_an c14 (g_an (fun h => absurd c31 (Int32.not_lt.mpr h.2)) rfl)))), rfl⟩) dX1_takes_21
  · skip
    refine lv_aload_n hx hb dX1_takes_6 rfl (lv_at hl 0 rfl) ?_
    refine gW_i (wr := []) (W2 := (fun (u : TS) => [(t0, .inr (1, [.ref t1, .int (nI ln), .ref t2, .int (nI u.2.2.1), .int (nI u.1), .int (if u.2.1 = true then 1 else 0)])), (t2, .inl (K 0, 16, .inl u.2.2.2))])) (va_runV (As := []) (rest := []) ⟨hx, hb, hml, hown, hts⟩ ((c_X1_takesComma l D K t0 t1 t2 ln tl aw ng vs (by first | assumption | omega) (by first | assumption | omega)) _) (cwV 0 hts gX1_takes_X1_takesComma rfl rfl rfl (by decide +kernel) ⟨Nat.le_of_ble_eq_true rfl, Nat.le_of_ble_eq_true rfl⟩) (gW_preV hE hS hK hP hD hA [0, 1] rfl (by decide) 0 rfl rfl rfl) rfl rfl hl.1 rfl (lv_room (Nat.le_of_ble_eq_true rfl)) dX1_takes_7 ⟨Nat.le_of_ble_eq_true rfl, Nat.le_of_ble_eq_true rfl⟩) hS hP hD hA [0, 1] [] [0, 1] rfl rfl (by decide) (by decide) (by decide) (fun _ => rfl) (fun rv14 u12 H locs h13 hP hD hS => ?_)
    have hP : va_P D vwCl [(t0, .inr (1, [.ref t1, .int (nI ln), .ref t2, .int (nI u12.2.2.1), .int (nI u12.1), .int (if u12.2.1 = true then 1 else 0)])), (t2, .inl (K 0, 16, .inl u12.2.2.2))] _ := hP
    have hD : va_D A [(t0, .inr (1, [.ref t1, .int (nI ln), .ref t2, .int (nI u12.2.2.1), .int (nI u12.1), .int (if u12.2.1 = true then 1 else 0)])), (t2, .inl (K 0, 16, .inl u12.2.2.2))] := hD
    have h13 : (rv14 = 1 ∧ stC aw ng tl vs = some u12) ∨ (rv14 = 0 ∧ stC aw ng tl vs = none ∧ u12 = (aw, ng, tl, vs)) := h13
    exact gW_iret (v := rv14) (u12.1, u12.2.1, u12.2.2.1, u12.2.2.2) hx hb hr hlk (ret_nar h13) hK hP hD hS (by unfold stp; first | (rw [if_pos c3]; exact h13) | (rw [if_neg c3, if_pos c14]; exact h13) | (rw [if_neg c3, if_neg c14, if_pos ⟨Int32.not_lt.mp c25, Int32.not_lt.mp c31⟩]; rcases h13 with q | q; exact Or.inl ⟨rfl, q.2⟩; exact absurd q.1 c42) | (rw [if_neg c3, if_neg c14, if_pos ⟨Int32.not_lt.mp c25, Int32.not_lt.mp c31⟩]; rcases h13 with q | q; exact absurd (q.1.symm.trans c42) (by decide); exact Or.inr ⟨rfl, q.2⟩) | exact Or.inr ⟨rfl, by (first | exact (g_in c3 (g_in c14 (g_in (fun h => absurd c25 (Int32.not_lt.mpr h.1)) rfl))) | exact (g_tn c3 (g_tn c14 (g_tn (fun h => absurd c25 (Int32.not_lt.mpr h.1)) rfl))) | exact (g_an c3 (g_an c14 (g_an (fun h => absurd c25 (Int32.not_lt.mpr h.1)) rfl)))), rfl⟩ | exact Or.inr ⟨rfl, by (first | exact (g_in c3 (g_in c14 (g_in (fun h => absurd c31 (Int32.not_lt.mpr h.2)) rfl))) | exact (g_tn c3 (g_tn c14 (g_tn (fun h => absurd c31 (Int32.not_lt.mpr h.2)) rfl))) | exact (g_an c3 (g_an c14 (g_an (fun h => absurd c31 (Int32.not_lt.mpr h.2)) rfl)))), rfl⟩) dX1_takes_10

set_option maxHeartbeats 4000000 in
set_option maxRecDepth 100000 in
theorem c_X1_scan (l : Launch) (D : va_G) (K : Nat → ClassId) (t0 : Nat) (t1 : Nat) (t2 : Nat) (ln : Nat) (tl : Nat) (aw : Nat) (ng : Bool) (vs : Nat → Int32) (sg : Nat → Int32) (hln : ln ≤ 60) : MWi l yX1_scan wsX1_scan ({ frames := 3, cells := 0, slots := 0, locals := 61 } : Room) D (gTy K) [.ref t0] [(t0, .inr (1, [.ref t1, .int (nI ln), .ref t2, .int (nI tl), .int (nI aw), .int (if ng = true then 1 else 0)])), (t1, .inl (K 2, 60, .inl sg)), (t2, .inl (K 0, 16, .inl vs))] (fun (u : TS) => [(t0, .inr (1, [.ref t1, .int (nI ln), .ref t2, .int (nI u.2.2.1), .int (nI u.1), .int (if u.2.1 = true then 1 else 0)])), (t1, .inl (K 2, 60, .inl sg)), (t2, .inl (K 0, 16, .inl u.2.2.2))]) (fun r (u : TS) => r = nI (scA sg ln vs).1 ∧ u = (scA sg ln vs).2) 0 0 := by
  refine g_ofW (Qc := fun A => va_Qi _ (gB D (gTy K) A _) A) (cc := cX1_scan) (maxL := 2) (ret := (some .int)) (own := RX1) (by decide) rfl rfl (Nat.le_of_ble_eq_true rfl) ?_
  intro pp ee s mm below meth cc A hfx hnm hK hP hD hE hS hA ls hl
  obtain ⟨hx, hb, hr, hml, hown, hts, hlk⟩ := hfx
  have hl : lv_has ls 2 [(0, .ref t0)] := hl
  have hi1 : ∀ w ∈ u_ws RX1 TX1 6, w ∈ wsX1_scan := fun w h => List.mem_cons_of_mem _ (List.mem_append_right _ (h))
  refine lv_aload_n hx hb dX1_scan_0 rfl (lv_at hl 0 rfl) ?_
  refine lv_iconst (v := 0) hx hb dX1_scan_1 (by decide) ?_
  refine va_put (D := D) (ci := 1) (v := .int 0) (ty := .int) (C := RX1) (T := TX1) (N := 6) hx hb hts hi1 tyX1 tyX1_ok nmX1 hown hK hP hD hS 0 rfl rfl 3 (by decide) (hts (.fieldLink RX1 19 "PairedChannels$ValuesText" "told" "I") (List.mem_of_getElem? (i := 1) (by decide +kernel))) (fun _ h9 => h9) rfl (by decide +kernel) (rfl) (rfl) (Nat.le_of_ble_eq_true rfl) dX1_scan_2 (fun H locs hP hD hS => ?_)
  have hP : va_P D vwCl [(t0, .inr (1, [.ref t1, .int (nI ln), .ref t2, .int 0, .int (nI aw), .int (if ng = true then 1 else 0)])), (t1, .inl (K 2, 60, .inl sg)), (t2, .inl (K 0, 16, .inl vs))] _ := hP
  have hD : va_D A [(t0, .inr (1, [.ref t1, .int (nI ln), .ref t2, .int 0, .int (nI aw), .int (if ng = true then 1 else 0)])), (t1, .inl (K 2, 60, .inl sg)), (t2, .inl (K 0, 16, .inl vs))] := hD
  refine lv_aload_n hx hb dX1_scan_5 rfl (lv_at hl 0 rfl) ?_
  refine lv_iconst (v := 0) hx hb dX1_scan_6 (by decide) ?_
  refine va_put (D := D) (ci := 1) (v := .int 0) (ty := .int) (C := RX1) (T := TX1) (N := 6) hx hb hts hi1 tyX1 tyX1_ok nmX1 hown hK hP hD hS 0 rfl rfl 4 (by decide) (hts (.fieldLink RX1 23 "PairedChannels$ValuesText" "awaited" "I") (List.mem_of_getElem? (i := 2) (by decide +kernel))) (fun _ h9 => h9) rfl (by decide +kernel) (rfl) (rfl) (Nat.le_of_ble_eq_true rfl) dX1_scan_7 (fun H locs hP hD hS => ?_)
  have hP : va_P D vwCl [(t0, .inr (1, [.ref t1, .int (nI ln), .ref t2, .int 0, .int 0, .int (if ng = true then 1 else 0)])), (t1, .inl (K 2, 60, .inl sg)), (t2, .inl (K 0, 16, .inl vs))] _ := hP
  have hD : va_D A [(t0, .inr (1, [.ref t1, .int (nI ln), .ref t2, .int 0, .int 0, .int (if ng = true then 1 else 0)])), (t1, .inl (K 2, 60, .inl sg)), (t2, .inl (K 0, 16, .inl vs))] := hD
  refine lv_aload_n hx hb dX1_scan_10 rfl (lv_at hl 0 rfl) ?_
  refine lv_iconst (v := 0) hx hb dX1_scan_11 (by decide) ?_
  refine va_put (D := D) (ci := 1) (v := .int 0) (ty := .boolean) (C := RX1) (T := TX1) (N := 6) hx hb hts hi1 tyX1 tyX1_ok nmX1 hown hK hP hD hS 0 rfl rfl 5 (by decide) (hts (.fieldLink RX1 26 "PairedChannels$ValuesText" "isBelowZero" "Z") (List.mem_of_getElem? (i := 3) (by decide +kernel))) (fun _ h9 => h9) rfl (by decide +kernel) (rfl) (rfl) (Nat.le_of_ble_eq_true rfl) dX1_scan_12 (fun H locs hP hD hS => ?_)
  have hP : va_P D vwCl [(t0, .inr (1, [.ref t1, .int (nI ln), .ref t2, .int 0, .int 0, .int 0])), (t1, .inl (K 2, 60, .inl sg)), (t2, .inl (K 0, 16, .inl vs))] _ := hP
  have hD : va_D A [(t0, .inr (1, [.ref t1, .int (nI ln), .ref t2, .int 0, .int 0, .int 0])), (t1, .inl (K 2, 60, .inl sg)), (t2, .inl (K 0, 16, .inl vs))] := hD
  refine lv_iconst (v := 0) hx hb dX1_scan_15 (by decide) ?_
  refine lv_istore_n (lv' := [(1, .int 0), (0, .ref t0)]) hx hb dX1_scan_16 rfl hl (by decide) rfl (fun ls hl => ?_)
  refine g_loopW (st := []) (N := ln) (fun i H locs ls => ∃ aw : Nat, ∃ ng : Bool, ∃ tl : Nat, ∃ vv : Nat → Int32, (scn sg (ln - i) i (aw, ng, tl, vv) = scA sg ln vs ∧ aw ≤ 3 ∧ tl ≤ 16) ∧ va_P D vwCl [(t0, .inr (1, [.ref t1, .int (nI ln), .ref t2, .int (nI tl), .int (nI aw), .int (if ng = true then 1 else 0)])), (t1, .inl (K 2, 60, .inl sg)), (t2, .inl (K 0, 16, .inl vv))] H ∧ va_D A [(t0, .inr (1, [.ref t1, .int (nI ln), .ref t2, .int (nI tl), .int (nI aw), .int (if ng = true then 1 else 0)])), (t1, .inl (K 2, 60, .inl sg)), (t2, .inl (K 0, 16, .inl vv))] ∧ va_S A s.heap H locs ∧ lv_has ls 2 [(1, .int (nI i)), (0, .ref t0)]) 0 (Nat.zero_le _) ?_ ?_ ?_
  · intro H locs ls hI
    obtain ⟨aw, ng, tl, vv, ⟨hz, haw, htl⟩, hP, hD, hS, hl⟩ := hI
    rw [scn_end] at hz
    refine lv_iload_n hx hb dX1_scan_17 rfl (lv_at hl 0 rfl) ?_
    refine lv_aload_n hx hb dX1_scan_18 rfl (lv_at hl 1 rfl) ?_
    refine va_get (D := D) (ci := 1) (v := .int (nI ln)) (C := RX1) (T := TX1) (N := 6) hx hb hts hi1 hown hK hP 0 rfl rfl 1 (by decide) (hts (.fieldLink RX1 30 "PairedChannels$ValuesText" "length" "I") (List.mem_of_getElem? (i := 4) (by decide +kernel))) (fun _ h9 => h9) rfl dX1_scan_19 ?_
    refine lv_icmp_ge (tgt := 46) hx hb dX1_scan_22 (by decide) (fun c2 => ?_) (fun c2 => ?_)
    · skip
      have c2 : ln ≤ ln := (nI_leI (a := ln) (b := ln) (by omega) (by omega)).mp c2
      refine lv_aload_n hx hb dX1_scan_46 rfl (lv_at hl 1 rfl) ?_
      refine va_get (D := D) (ci := 1) (v := .int (nI ln)) (C := RX1) (T := TX1) (N := 6) hx hb hts hi1 hown hK hP 0 rfl rfl 1 (by decide) (hts (.fieldLink RX1 30 "PairedChannels$ValuesText" "length" "I") (List.mem_of_getElem? (i := 4) (by decide +kernel))) (fun _ h9 => h9) rfl dX1_scan_47 ?_
      exact gW_iret (v := nI ln) (aw, ng, tl, vv) hx hb hr hlk (rfl) hK hP hD hS (by first | (rw [← hz]; exact ⟨rfl, rfl⟩) | (rcases hz with q | q; exact absurd (q.1.symm.trans c35) (by decide); rw [scn_none hi q.2.1] at hz; rw [← hz]; exact ⟨rfl, q.2.2⟩)) dX1_scan_50
    · skip
      have c2 : ¬ ln ≤ ln := fun h9 => c2 ((nI_leI (a := ln) (b := ln) (by omega) (by omega)).mpr h9)
      omega
  · intro i hi ih1 H locs ls hI
    obtain ⟨aw, ng, tl, vv, ⟨hz, haw, htl⟩, hP, hD, hS, hl⟩ := hI
    refine lv_iload_n hx hb dX1_scan_17 rfl (lv_at hl 0 rfl) ?_
    refine lv_aload_n hx hb dX1_scan_18 rfl (lv_at hl 1 rfl) ?_
    refine va_get (D := D) (ci := 1) (v := .int (nI ln)) (C := RX1) (T := TX1) (N := 6) hx hb hts hi1 hown hK hP 0 rfl rfl 1 (by decide) (hts (.fieldLink RX1 30 "PairedChannels$ValuesText" "length" "I") (List.mem_of_getElem? (i := 4) (by decide +kernel))) (fun _ h9 => h9) rfl dX1_scan_19 ?_
    refine lv_icmp_ge (tgt := 46) hx hb dX1_scan_22 (by decide) (fun c3 => ?_) (fun c3 => ?_)
    · skip
      have c3 : ln ≤ i := (nI_leI (a := ln) (b := i) (by omega) (by omega)).mp c3
      omega
    · skip
      have c3 : ¬ ln ≤ i := fun h9 => c3 ((nI_leI (a := ln) (b := i) (by omega) (by omega)).mpr h9)
      refine lv_aload_n hx hb dX1_scan_25 rfl (lv_at hl 1 rfl) ?_
      refine lv_aload_n hx hb dX1_scan_26 rfl (lv_at hl 1 rfl) ?_
      refine va_get (D := D) (ci := 1) (v := .ref t1) (C := RX1) (T := TX1) (N := 6) hx hb hts hi1 hown hK hP 0 rfl rfl 0 (by decide) (hts (.fieldLink RX1 9 "PairedChannels$ValuesText" "signs" "[C") (List.mem_of_getElem? (i := 5) (by decide +kernel))) (fun _ h9 => h9) rfl dX1_scan_27 ?_
      refine lv_iload_n hx hb dX1_scan_30 rfl (lv_at hl 0 rfl) ?_
      refine wa_cald hx hb hK hP 1 2 rfl rfl (i) rfl (by omega) (by decide) dX1_scan_31 ?_
      refine gW_i (wr := [(t1, .inl (K 2, 60, .inl sg))]) (W2 := (fun (u : TS) => [(t0, .inr (1, [.ref t1, .int (nI ln), .ref t2, .int (nI u.2.2.1), .int (nI u.1), .int (if u.2.1 = true then 1 else 0)])), (t1, .inl (K 2, 60, .inl sg)), (t2, .inl (K 0, 16, .inl u.2.2.2))])) (va_runV (As := [.int (sg i)]) (rest := []) ⟨hx, hb, hml, hown, hts⟩ ((c_X1_takes l D K t0 t1 t2 ln tl aw ng vv (sg i) (by first | assumption | omega) (by first | assumption | omega)) _) (cwV 1 hts gX1_scan_X1_takes rfl rfl rfl (by decide +kernel) ⟨Nat.le_of_ble_eq_true rfl, Nat.le_of_ble_eq_true rfl⟩) (gW_preV hE hS hK hP hD hA [0, 2] rfl (by decide) 0 rfl rfl rfl) rfl rfl hl.1 rfl (lv_room (Nat.le_of_ble_eq_true rfl)) dX1_scan_32 ⟨Nat.le_of_ble_eq_true rfl, Nat.le_of_ble_eq_true rfl⟩) hS hP hD hA [0, 2] [1] [1, 0, 2] rfl rfl (by decide) (by decide) (by decide) (fun _ => rfl) (fun rv6 u4 H locs h5 hP hD hS => ?_)
      have hP : va_P D vwCl [(t0, .inr (1, [.ref t1, .int (nI ln), .ref t2, .int (nI u4.2.2.1), .int (nI u4.1), .int (if u4.2.1 = true then 1 else 0)])), (t1, .inl (K 2, 60, .inl sg)), (t2, .inl (K 0, 16, .inl u4.2.2.2))] _ := hP
      have hD : va_D A [(t0, .inr (1, [.ref t1, .int (nI ln), .ref t2, .int (nI u4.2.2.1), .int (nI u4.1), .int (if u4.2.1 = true then 1 else 0)])), (t1, .inl (K 2, 60, .inl sg)), (t2, .inl (K 0, 16, .inl u4.2.2.2))] := hD
      have h5 : (rv6 = 1 ∧ stp (aw, ng, tl, vv) (sg i) = some u4) ∨ (rv6 = 0 ∧ stp (aw, ng, tl, vv) (sg i) = none ∧ u4 = (aw, ng, tl, vv)) := h5
      refine lv_if_ne (tgt := 40) hx hb dX1_scan_35 (by decide) (fun c35 => ?_) (fun c35 => ?_)
      · skip
        refine lv_iinc (v := nI (i + 1)) (lv' := [(1, .int (nI (i + 1))), (0, .ref t0)]) hx hb dX1_scan_40 hl (k := 0) rfl (nI_add i 1) (by decide) rfl (fun ls hl => ?_)
        refine lv_goto (tgt := 17) hx hb dX1_scan_43 (by decide) ?_
        exact ih1 H locs ls ⟨u4.1, u4.2.1, u4.2.2.1, u4.2.2.2, (by rcases h5 with q | q; exact ⟨(scn_some hi q.2).symm.trans hz, (stp_ok ⟨haw, htl⟩ q.2)⟩; exact absurd q.1 c35), hP, hD, hS, lv_sub hl [0, 1] rfl⟩
      · skip
        refine lv_iload_n hx hb dX1_scan_38 rfl (lv_at hl 0 rfl) ?_
        exact gW_iret (v := nI i) (u4.1, u4.2.1, u4.2.2.1, u4.2.2.2) hx hb hr hlk (rfl) hK hP hD hS (by first | (rw [← hz]; exact ⟨rfl, rfl⟩) | (rcases h5 with q | q; exact absurd (q.1.symm.trans c35) (by decide); rw [scn_none hi q.2.1] at hz; rw [← hz]; exact ⟨rfl, q.2.2⟩)) dX1_scan_39
  · exact ⟨0, false, 0, vs, (⟨rfl, by decide, by decide⟩), hP, hD, hS, lv_sub hl [0, 1] rfl⟩
