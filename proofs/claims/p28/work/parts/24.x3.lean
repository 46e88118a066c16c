/-! Text -/
set_option maxHeartbeats 4000000 in
set_option maxRecDepth 100000 in
theorem m_X3_add (l : Launch) (D : va_G) (cy : Nat → ClassId) (a : Nat → Nat) (t : Nat → Nat → Int32) (x : Int32) (n : Nat) (sz : Nat) (hn : t 1 0 = nI n) (hn2 : n < 60) (hx2 : vp_nar .char x = x) : Met l yX3_add wsX3_add ({ frames := 0, cells := 0, slots := 0, locals := 0 } : Room) (wl_ic D cy (fun _ => True) [txW cy a t] sz [.ref (a 0), .int x]) (va_Qv (fun (bs : List va_W) => bs = [txW cy a (su (su t 0 n x) 1 0 (nI (n + 1)))]) (wl_ib D [txW cy a t] sz) (va_A ([txW cy a t] : List va_W).flatten sz)) 0 0 (va_A ([txW cy a t] : List va_W).flatten sz) := by
  refine wl_ofI (cc := cX3_add) (maxL := 2) (ret := none) (by decide) rfl (Nat.le_of_ble_eq_true rfl) ?_
  intro p e s m below meth c ls A hx hb hr hts hown hlocks hml hnm hsz hAe hP hK hD hX hA hS hl
  have hl : lv_has ls 2 [(0, .ref (a 0)), (1, .int x)] := hl
  have lkf15 := hts (.fieldLink RX3 15 "WireLamps$Text" "length" "I") (by decide +kernel)
  have lkf9 := hts (.fieldLink RX3 9 "WireLamps$Text" "signs" "[C") (by decide +kernel)
  have in_X3 : ∀ w ∈ u_ws RX3 TX3 2, w ∈ wsX3_add := by decide +kernel
  refine lv_aload_n hx hb dX3_add_0 rfl (lv_at hl 0 rfl) ?_
  refine wl_getf (C := RX3) (T := TX3) (N := 2) (ci := 3) (v := .int (t 1 0)) hx hb hts in_X3 hown hK hP 0 0 rfl rfl rfl 1 (by decide) lkf15 rfl rfl dX3_add_1 ?_
  refine wl_top (y := nI n) hn ?_
  refine wl_if_lt (tgt := 36) hx hb n dX3_add_4 (by decide) (by omega) ?_
  refine lv_aload_n hx hb dX3_add_7 rfl (lv_at hl 0 rfl) ?_
  refine wl_getf (C := RX3) (T := TX3) (N := 2) (ci := 3) (v := .int (t 1 0)) hx hb hts in_X3 hown hK hP 0 0 rfl rfl rfl 1 (by decide) lkf15 rfl rfl dX3_add_8 ?_
  refine wl_top (y := nI n) hn ?_
  refine lv_bipush (v := 60) hx hb dX3_add_11 (by decide) ?_
  refine wl_icmp_ge (tgt := 36) hx hb n 60 dX3_add_13 (by decide) (by omega) (by omega) (fun c2 => absurd c2 (by omega)) (fun c2 => ?_)
  refine lv_aload_n hx hb dX3_add_16 rfl (lv_at hl 0 rfl) ?_
  refine wl_getf (C := RX3) (T := TX3) (N := 2) (ci := 3) (v := .ref (a 1)) hx hb hts in_X3 hown hK hP 0 0 rfl rfl rfl 0 (by decide) lkf9 rfl rfl dX3_add_17 ?_
  refine lv_aload_n hx hb dX3_add_20 rfl (lv_at hl 0 rfl) ?_
  refine wl_getf (C := RX3) (T := TX3) (N := 2) (ci := 3) (v := .int (t 1 0)) hx hb hts in_X3 hown hK hP 0 0 rfl rfl rfl 1 (by decide) lkf15 rfl rfl dX3_add_21 ?_
  refine wl_top (y := nI n) hn ?_
  refine lv_iload_n hx hb dX3_add_24 rfl (lv_at hl 1 rfl) ?_
  refine wl_cast hx hb hK hP hD hS 0 1 rfl rfl n (by omega) (Nat.le_of_ble_eq_true rfl) (hx2) dX3_add_25 (fun H locs hP hD hS => ?_)
  have hP : va_P D vwCl ([txW cy a (su t 0 n x)] : List va_W).flatten H := hP
  have hD : va_D A ([txW cy a (su t 0 n x)] : List va_W).flatten := hD
  refine lv_aload_n hx hb dX3_add_26 rfl (lv_at hl 0 rfl) ?_
  refine lv_dup hx hb dX3_add_27 rfl ?_
  refine wl_getf (C := RX3) (T := TX3) (N := 2) (ci := 3) (v := .int (t 1 0)) hx hb hts in_X3 hown hK hP 0 0 rfl rfl rfl 1 (by decide) lkf15 rfl rfl dX3_add_28 ?_
  refine wl_top (y := nI n) hn ?_
  refine lv_iconst (v := 1) hx hb dX3_add_31 (by decide) ?_
  refine lv_iadd hx hb dX3_add_32 ?_
  refine wl_top (y := nI (n + 1)) (nI_add n 1) ?_
  refine wl_putf (C := RX3) (T := TX3) (N := 2) (ci := 3) (v := .int (nI (n + 1))) hx hb hts in_X3 tyX3 tyX3_ok nmX3 hown hK hP hD hS 0 0 rfl rfl rfl 1 (by decide) lkf15 rfl rfl rfl rfl (Nat.le_of_ble_eq_true rfl) dX3_add_33 (fun H locs hP hD hS => ?_)
  have hP : va_P D vwCl ([txW cy a (su (su t 0 n x) 1 0 (nI (n + 1)))] : List va_W).flatten H := hP
  have hD : va_D A ([txW cy a (su (su t 0 n x) 1 0 (nI (n + 1)))] : List va_W).flatten := hD
  exact wl_Rv (bs := [txW cy a (su (su t 0 n x) 1 0 (nI (n + 1)))]) hx hb hr hlocks hAe hP hD hS (by rfl) dX3_add_36
set_option maxHeartbeats 4000000 in
set_option maxRecDepth 100000 in
theorem m_X3_empty (l : Launch) (D : va_G) (cy : Nat → ClassId) (a : Nat → Nat) (t : Nat → Nat → Int32) (sz : Nat)  : Met l yX3_empty wsX3_empty ({ frames := 0, cells := 0, slots := 0, locals := 0 } : Room) (wl_ic D cy (fun _ => True) [txW cy a t] sz [.ref (a 0)]) (va_Qv (fun (bs : List va_W) => bs = [txW cy a (su t 1 0 0)]) (wl_ib D [txW cy a t] sz) (va_A ([txW cy a t] : List va_W).flatten sz)) 0 0 (va_A ([txW cy a t] : List va_W).flatten sz) := by
  refine wl_ofI (cc := cX3_empty) (maxL := 1) (ret := none) (by decide) rfl (Nat.le_of_ble_eq_true rfl) ?_
  intro p e s m below meth c ls A hx hb hr hts hown hlocks hml hnm hsz hAe hP hK hD hX hA hS hl
  have hl : lv_has ls 1 [(0, .ref (a 0))] := hl
  have lkf15 := hts (.fieldLink RX3 15 "WireLamps$Text" "length" "I") (by decide +kernel)
  have in_X3 : ∀ w ∈ u_ws RX3 TX3 2, w ∈ wsX3_empty := by decide +kernel
  refine lv_aload_n hx hb dX3_empty_0 rfl (lv_at hl 0 rfl) ?_
  refine lv_iconst (v := 0) hx hb dX3_empty_1 (by decide) ?_
  refine wl_putf (C := RX3) (T := TX3) (N := 2) (ci := 3) (v := .int 0) hx hb hts in_X3 tyX3 tyX3_ok nmX3 hown hK hP hD hS 0 0 rfl rfl rfl 1 (by decide) lkf15 rfl rfl rfl rfl (Nat.le_of_ble_eq_true rfl) dX3_empty_2 (fun H locs hP hD hS => ?_)
  have hP : va_P D vwCl ([txW cy a (su t 1 0 0)] : List va_W).flatten H := hP
  have hD : va_D A ([txW cy a (su t 1 0 0)] : List va_W).flatten := hD
  exact wl_Rv (bs := [txW cy a (su t 1 0 0)]) hx hb hr hlocks hAe hP hD hS (by rfl) dX3_empty_5
set_option maxHeartbeats 4000000 in
set_option maxRecDepth 100000 in
theorem m_X3_signAt (l : Launch) (D : va_G) (cy : Nat → ClassId) (a : Nat → Nat) (t : Nat → Nat → Int32) (x : Int32) (n : Nat) (hn : t 1 0 = nI n) (hn2 : n ≤ 60) (hc : ∀ k, k < n → vp_nar .char (t 0 k) = t 0 k) : Met l yX3_signAt wsX3_signAt ({ frames := 0, cells := 0, slots := 0, locals := 0 } : Room) (wl_pc D cy [txW cy a t] [.ref (a 0), .int x]) (vp_Si (fun r : Int32 => r = q_sg t n x)) 0 0 (fun _ => False) := by
  refine wl_ofP (cc := cX3_signAt) (maxL := 2) (ret := (some .char)) (by decide) rfl (Nat.le_of_ble_eq_true rfl) ?_
  intro p e s m below meth c ls hx hb hr hts hown hlocks hml hP hK hl
  have hl : lv_has ls 2 [(0, .ref (a 0)), (1, .int x)] := hl
  have lkf15 := hts (.fieldLink RX3 15 "WireLamps$Text" "length" "I") (by decide +kernel)
  have lkf9 := hts (.fieldLink RX3 9 "WireLamps$Text" "signs" "[C") (by decide +kernel)
  have in_X3 : ∀ w ∈ u_ws RX3 TX3 2, w ∈ wsX3_signAt := by decide +kernel
  refine lv_iload_n hx hb dX3_signAt_0 rfl (lv_at hl 1 rfl) ?_
  refine lv_if_lt (tgt := 27) hx hb dX3_signAt_1 (by decide) (fun hx0 => ?_) (fun hx0 => ?_)
  · refine lv_bipush (v := 32) hx hb dX3_signAt_27 (by decide) ?_
    exact wl_rc (r := 32) hx hb hr hlocks ((by first | decide | exact hc _ (by omega))) (by unfold q_sg; rw [if_pos hx0]) dX3_signAt_29
  · obtain ⟨k, hk31, rfl⟩ := nI_of hx0
    have hl : lv_has ls 2 [(0, .ref (a 0)), (1, .int (nI k))] := hl
    refine lv_iload_n hx hb dX3_signAt_4 rfl (lv_at hl 1 rfl) ?_
    refine lv_aload_n hx hb dX3_signAt_5 rfl (lv_at hl 0 rfl) ?_
    refine wl_getf (C := RX3) (T := TX3) (N := 2) (ci := 3) (v := .int (t 1 0)) hx hb hts in_X3 hown hK hP 0 0 rfl rfl rfl 1 (by decide) lkf15 rfl rfl dX3_signAt_6 ?_
    refine wl_top (y := nI n) hn ?_
    refine wl_icmp_ge (tgt := 27) hx hb k n dX3_signAt_9 (by decide) (by omega) (by omega) (fun c1 => ?_) (fun c1 => ?_)
    · refine lv_bipush (v := 32) hx hb dX3_signAt_27 (by decide) ?_
      exact wl_rc (r := 32) hx hb hr hlocks ((by first | decide | exact hc _ (by omega))) (by unfold q_sg; rw [if_neg hx0, nI_clamp hk31, if_neg (by omega)]) dX3_signAt_29
    · refine lv_iload_n hx hb dX3_signAt_12 rfl (lv_at hl 1 rfl) ?_
      refine lv_bipush (v := 60) hx hb dX3_signAt_13 (by decide) ?_
      refine wl_icmp_ge (tgt := 27) hx hb k 60 dX3_signAt_15 (by decide) (by omega) (by omega) (fun c2 => absurd c2 (by omega)) (fun c2 => ?_)
      refine lv_aload_n hx hb dX3_signAt_18 rfl (lv_at hl 0 rfl) ?_
      refine wl_getf (C := RX3) (T := TX3) (N := 2) (ci := 3) (v := .ref (a 1)) hx hb hts in_X3 hown hK hP 0 0 rfl rfl rfl 0 (by decide) lkf9 rfl rfl dX3_signAt_19 ?_
      refine lv_iload_n hx hb dX3_signAt_22 rfl (lv_at hl 1 rfl) ?_
      refine wl_cald hx hb hK hP 0 1 rfl rfl k (by omega) (Nat.le_of_ble_eq_true rfl) dX3_signAt_23 ?_
      refine lv_goto (tgt := 29) hx hb dX3_signAt_24 (by decide) ?_
      exact wl_rc (r := (t 0 k)) hx hb hr hlocks ((by first | decide | exact hc _ (by omega))) (by unfold q_sg; rw [if_neg hx0, nI_clamp hk31, if_pos (by omega)]) dX3_signAt_29
set_option maxHeartbeats 4000000 in
set_option maxRecDepth 100000 in
theorem m_X3_digitOf (l : Launch) (D : va_G) (cy : Nat → ClassId) (x : Int32)  : Met l yX3_digitOf wsX3_digitOf ({ frames := 0, cells := 0, slots := 0, locals := 0 } : Room) (wl_pc D cy [] [.int x]) (vp_Si (fun r : Int32 => r = q_dg x)) 0 0 (fun _ => False) := by
  refine wl_ofP (cc := cX3_digitOf) (maxL := 1) (ret := (some .int)) (by decide) rfl (Nat.le_of_ble_eq_true rfl) ?_
  intro p e s m below meth c ls hx hb hr hts hown hlocks hml hP hK hl
  have hl : lv_has ls 1 [(0, .int x)] := hl
  refine lv_iload_n hx hb dX3_digitOf_0 rfl (lv_at hl 0 rfl) ?_
  refine lv_bipush (v := 48) hx hb dX3_digitOf_1 (by decide) ?_
  refine lv_icmp_lt (tgt := 17) hx hb dX3_digitOf_3 (by decide) (fun c1 => ?_) (fun c1 => ?_)
  · refine lv_iload_n hx hb dX3_digitOf_17 rfl (lv_at hl 0 rfl) ?_
    refine lv_bipush (v := 97) hx hb dX3_digitOf_18 (by decide) ?_
    refine lv_icmp_lt (tgt := 39) hx hb dX3_digitOf_20 (by decide) (fun c2 => ?_) (fun c2 => ?_)
    · refine lv_iconst (v := (-1)) hx hb dX3_digitOf_39 (by decide) ?_
      exact wl_ri (r := (-1)) hx hb hr hlocks (by simp only [q_dg, q_dg2, c1, c2, ↓reduceIte]) dX3_digitOf_40
    · refine lv_iload_n hx hb dX3_digitOf_23 rfl (lv_at hl 0 rfl) ?_
      refine lv_bipush (v := 102) hx hb dX3_digitOf_24 (by decide) ?_
      refine lv_icmp_gt (tgt := 39) hx hb dX3_digitOf_26 (by decide) (fun c3 => ?_) (fun c3 => ?_)
      · refine lv_iconst (v := (-1)) hx hb dX3_digitOf_39 (by decide) ?_
        exact wl_ri (r := (-1)) hx hb hr hlocks (by simp only [q_dg, q_dg2, c1, c2, c3, ↓reduceIte]) dX3_digitOf_40
      · refine lv_iload_n hx hb dX3_digitOf_29 rfl (lv_at hl 0 rfl) ?_
        refine lv_bipush (v := 97) hx hb dX3_digitOf_30 (by decide) ?_
        refine lv_isub hx hb dX3_digitOf_32 ?_
        refine lv_bipush (v := 10) hx hb dX3_digitOf_33 (by decide) ?_
        refine lv_iadd hx hb dX3_digitOf_35 ?_
        refine lv_goto (tgt := 40) hx hb dX3_digitOf_36 (by decide) ?_
        exact wl_ri (r := ((x - 97) + 10)) hx hb hr hlocks (by simp only [q_dg, q_dg2, c1, c2, c3, ↓reduceIte]) dX3_digitOf_40
  · refine lv_iload_n hx hb dX3_digitOf_6 rfl (lv_at hl 0 rfl) ?_
    refine lv_bipush (v := 57) hx hb dX3_digitOf_7 (by decide) ?_
    refine lv_icmp_gt (tgt := 17) hx hb dX3_digitOf_9 (by decide) (fun c4 => ?_) (fun c4 => ?_)
    · refine lv_iload_n hx hb dX3_digitOf_17 rfl (lv_at hl 0 rfl) ?_
      refine lv_bipush (v := 97) hx hb dX3_digitOf_18 (by decide) ?_
      refine lv_icmp_lt (tgt := 39) hx hb dX3_digitOf_20 (by decide) (fun c5 => ?_) (fun c5 => ?_)
      · refine lv_iconst (v := (-1)) hx hb dX3_digitOf_39 (by decide) ?_
        exact wl_ri (r := (-1)) hx hb hr hlocks (by simp only [q_dg, q_dg2, c1, c4, c5, ↓reduceIte]) dX3_digitOf_40
      · refine lv_iload_n hx hb dX3_digitOf_23 rfl (lv_at hl 0 rfl) ?_
        refine lv_bipush (v := 102) hx hb dX3_digitOf_24 (by decide) ?_
        refine lv_icmp_gt (tgt := 39) hx hb dX3_digitOf_26 (by decide) (fun c6 => ?_) (fun c6 => ?_)
        · refine lv_iconst (v := (-1)) hx hb dX3_digitOf_39 (by decide) ?_
          exact wl_ri (r := (-1)) hx hb hr hlocks (by simp only [q_dg, q_dg2, c1, c4, c5, c6, ↓reduceIte]) dX3_digitOf_40
        · refine lv_iload_n hx hb dX3_digitOf_29 rfl (lv_at hl 0 rfl) ?_
          refine lv_bipush (v := 97) hx hb dX3_digitOf_30 (by decide) ?_
          refine lv_isub hx hb dX3_digitOf_32 ?_
          refine lv_bipush (v := 10) hx hb dX3_digitOf_33 (by decide) ?_
          refine lv_iadd hx hb dX3_digitOf_35 ?_
          refine lv_goto (tgt := 40) hx hb dX3_digitOf_36 (by decide) ?_
          exact wl_ri (r := ((x - 97) + 10)) hx hb hr hlocks (by simp only [q_dg, q_dg2, c1, c4, c5, c6, ↓reduceIte]) dX3_digitOf_40
    · refine lv_iload_n hx hb dX3_digitOf_12 rfl (lv_at hl 0 rfl) ?_
      refine lv_bipush (v := 48) hx hb dX3_digitOf_13 (by decide) ?_
      refine lv_isub hx hb dX3_digitOf_15 ?_
      exact wl_ri (r := (x - 48)) hx hb hr hlocks (by simp only [q_dg, q_dg2, c1, c4, ↓reduceIte]) dX3_digitOf_16
set_option maxHeartbeats 4000000 in
set_option maxRecDepth 100000 in
theorem m_X3_fits (l : Launch) (D : va_G) (cy : Nat → ClassId) (a : Nat → Nat) (t : Nat → Nat → Int32) (k n : Nat) (hn : t 1 0 = nI n) (hn2 : n ≤ 60) (hc : ∀ k, k < n → vp_nar .char (t 0 k) = t 0 k) (hk : k < n) : Met l yX3_fits wsX3_fits ({ frames := 1, cells := 0, slots := 0, locals := 21 } : Room) (wl_pc D cy [txW cy a t] [.ref (a 0), .int (nI k)]) (vp_Si (fun r : Int32 => r = if (q_ft t n k = true) then 1 else 0)) 0 0 (fun _ => False) := by
  refine wl_ofP (cc := cX3_fits) (maxL := 4) (ret := (some .boolean)) (by decide) rfl (Nat.le_of_ble_eq_true rfl) ?_
  intro p e s m below meth c ls hx hb hr hts hown hlocks hml hP hK hl
  have hl : lv_has ls 4 [(0, .ref (a 0)), (1, .int (nI k))] := hl
  refine lv_iload_n hx hb dX3_fits_0 rfl (lv_at hl 1 rfl) ?_
  refine lv_iconst (v := 4) hx hb dX3_fits_1 (by decide) ?_
  refine lv_idiv hx hb dX3_fits_2 (by decide) ?_
  refine wl_top (y := nI (k / 4)) (pk_div (a := k) (d := 4) (by omega) (by omega) (by omega)) ?_
  refine lv_istore_n (lv' := [(2, .int (nI (k / 4))), (0, .ref (a 0)), (1, .int (nI k))]) hx hb dX3_fits_3 rfl hl (by decide) rfl (fun ls hl => ?_)
  refine lv_iload_n hx hb dX3_fits_4 rfl (lv_at hl 0 rfl) ?_
  refine lv_bipush (v := 10) hx hb dX3_fits_5 (by decide) ?_
  refine wl_icmp_ge (tgt := 22) hx hb (k / 4) 10 dX3_fits_7 (by decide) (by omega) (by omega) (fun c1 => ?_) (fun c1 => ?_)
  · refine lv_iconst (v := 0) hx hb dX3_fits_22 (by decide) ?_
    exact wl_rz (r := 0) (False) hx hb hr hlocks (by rfl) (by first | (rw [q_ft, if_pos c1]; done) | (rw [q_ft, if_pos c1]; rfl)) dX3_fits_23
  · refine lv_aload_n hx hb dX3_fits_10 rfl (lv_at hl 1 rfl) ?_
    refine lv_iload_n hx hb dX3_fits_11 rfl (lv_at hl 2 rfl) ?_
    refine lv_iconst (v := 1) hx hb dX3_fits_12 (by decide) ?_
    refine lv_isub hx hb dX3_fits_13 ?_
    refine wl_pV (As := [.int ((nI k) - 1)]) (rest := []) ⟨hx, hb, hml, hown, hts⟩ (m_X3_signAt l D cy a t ((nI k) - 1) n hn (by omega) hc) (cwV 1 hts gX3_fits_X3_signAt rfl rfl rfl (by decide +kernel) ⟨Nat.le_of_ble_eq_true rfl, Nat.le_of_ble_eq_true rfl⟩) hK hP [0] rfl rfl rfl rfl rfl rfl hl.1 rfl (Nat.le_of_ble_eq_true rfl) dX3_fits_14 ⟨Nat.le_of_ble_eq_true rfl, Nat.le_of_ble_eq_true rfl⟩ (fun r2 er2 => ?_)
    have er2 : r2 = q_sg t n ((nI k) - 1) := er2
    subst er2
    refine lv_bipush (v := 33) hx hb dX3_fits_17 (by decide) ?_
    refine lv_icmp_ne (tgt := 24) hx hb dX3_fits_19 (by decide) (fun c3 => ?_) (fun c3 => ?_)
    · refine lv_aload_n hx hb dX3_fits_24 rfl (lv_at hl 1 rfl) ?_
      refine lv_iload_n hx hb dX3_fits_25 rfl (lv_at hl 2 rfl) ?_
      refine wl_pV (As := [.int (nI k)]) (rest := []) ⟨hx, hb, hml, hown, hts⟩ (m_X3_signAt l D cy a t (nI k) n hn (by omega) hc) (cwV 1 hts gX3_fits_X3_signAt rfl rfl rfl (by decide +kernel) ⟨Nat.le_of_ble_eq_true rfl, Nat.le_of_ble_eq_true rfl⟩) hK hP [0] rfl rfl rfl rfl rfl rfl hl.1 rfl (Nat.le_of_ble_eq_true rfl) dX3_fits_26 ⟨Nat.le_of_ble_eq_true rfl, Nat.le_of_ble_eq_true rfl⟩ (fun r4 er4 => ?_)
      have er4 : r4 = q_sg t n (nI k) := er4
      subst er4
      refine lv_istore_n (lv' := [(3, .int (q_sg t n (nI k))), (2, .int (nI (k / 4))), (0, .ref (a 0)), (1, .int (nI k))]) hx hb dX3_fits_29 rfl hl (by decide) rfl (fun ls hl => ?_)
      refine lv_iload_n hx hb dX3_fits_30 rfl (lv_at hl 3 rfl) ?_
      refine lv_iconst (v := 4) hx hb dX3_fits_31 (by decide) ?_
      refine lv_irem hx hb dX3_fits_32 (by decide) ?_
      refine wl_top (y := nI (k % 4)) (pk_rem (a := k) (d := 4) (by omega) (by omega) (by omega)) ?_
      refine lv_iconst (v := 3) hx hb dX3_fits_33 (by decide) ?_
      refine wl_icmp_ge (tgt := 51) hx hb (k % 4) 3 dX3_fits_34 (by decide) (by omega) (by omega) (fun c5 => ?_) (fun c5 => ?_)
      · refine lv_iload_n hx hb dX3_fits_51 rfl (lv_at hl 0 rfl) ?_
        refine lv_bipush (v := 33) hx hb dX3_fits_52 (by decide) ?_
        refine lv_icmp_eq (tgt := 69) hx hb dX3_fits_54 (by decide) (fun c6 => ?_) (fun c6 => ?_)
        · refine lv_iconst (v := 1) hx hb dX3_fits_69 (by decide) ?_
          refine lv_goto (tgt := 74) hx hb dX3_fits_70 (by decide) ?_
          exact wl_rz (r := 1) (True) hx hb hr hlocks (by rfl) (by first | (rw [q_ft, if_neg c1, if_neg c3, if_pos c5, if_pos c6]; done) | (rw [q_ft, if_neg c1, if_neg c3, if_pos c5, if_pos c6]; rfl)) dX3_fits_74
        · refine lv_iload_n hx hb dX3_fits_57 rfl (lv_at hl 0 rfl) ?_
          refine lv_bipush (v := 44) hx hb dX3_fits_58 (by decide) ?_
          refine lv_icmp_ne (tgt := 73) hx hb dX3_fits_60 (by decide) (fun c7 => ?_) (fun c7 => ?_)
          · refine lv_iconst (v := 0) hx hb dX3_fits_73 (by decide) ?_
            exact wl_rz (r := 0) (False) hx hb hr hlocks (by rfl) (by first | (rw [q_ft, if_neg c1, if_neg c3, if_pos c5, if_neg c6, if_neg c7]; done) | (rw [q_ft, if_neg c1, if_neg c3, if_pos c5, if_neg c6, if_neg c7]; rfl)) dX3_fits_74
          · refine lv_iload_n hx hb dX3_fits_63 rfl (lv_at hl 1 rfl) ?_
            refine lv_bipush (v := 9) hx hb dX3_fits_64 (by decide) ?_
            refine wl_icmp_ge (tgt := 73) hx hb (k / 4) 9 dX3_fits_66 (by decide) (by omega) (by omega) (fun c8 => ?_) (fun c8 => ?_)
            · refine lv_iconst (v := 0) hx hb dX3_fits_73 (by decide) ?_
              exact wl_rz (r := 0) (False) hx hb hr hlocks (by rfl) (by first | (rw [q_ft, if_neg c1, if_neg c3, if_pos c5, if_neg c6, if_pos c7, if_pos c8]; done) | (rw [q_ft, if_neg c1, if_neg c3, if_pos c5, if_neg c6, if_pos c7, if_pos c8]; rfl)) dX3_fits_74
            · refine lv_iconst (v := 1) hx hb dX3_fits_69 (by decide) ?_
              refine lv_goto (tgt := 74) hx hb dX3_fits_70 (by decide) ?_
              exact wl_rz (r := 1) (True) hx hb hr hlocks (by rfl) (by first | (rw [q_ft, if_neg c1, if_neg c3, if_pos c5, if_neg c6, if_pos c7, if_neg c8]; done) | (rw [q_ft, if_neg c1, if_neg c3, if_pos c5, if_neg c6, if_pos c7, if_neg c8]; rfl)) dX3_fits_74
      · refine lv_iload_n hx hb dX3_fits_37 rfl (lv_at hl 0 rfl) ?_
        refine wl_pS (As := [.int (q_sg t n (nI k))]) (rest := []) ⟨hx, hb, hml, hown, hts⟩ (m_X3_digitOf l D cy (q_sg t n (nI k)) ) (va_cwS 1 hts gX3_fits_X3_digitOf rfl rfl rfl (by decide +kernel) ⟨Nat.le_of_ble_eq_true rfl, Nat.le_of_ble_eq_true rfl⟩) hK hP [] rfl rfl hl.1 rfl (Nat.le_of_ble_eq_true rfl) dX3_fits_38 ⟨Nat.le_of_ble_eq_true rfl, Nat.le_of_ble_eq_true rfl⟩ (fun r9 er9 => ?_)
        have er9 : r9 = q_dg (q_sg t n (nI k)) := er9
        subst er9
        refine lv_iconst (v := (-1)) hx hb dX3_fits_41 (by decide) ?_
        refine lv_icmp_eq (tgt := 49) hx hb dX3_fits_42 (by decide) (fun c10 => ?_) (fun c10 => ?_)
        · refine lv_iconst (v := 0) hx hb dX3_fits_49 (by decide) ?_
          exact wl_rz (r := 0) (False) hx hb hr hlocks (by rfl) (by first | (rw [q_ft, if_neg c1, if_neg c3, if_neg c5, if_pos c10]; done) | (rw [q_ft, if_neg c1, if_neg c3, if_neg c5, if_pos c10]; rfl)) dX3_fits_50
        · refine lv_iconst (v := 1) hx hb dX3_fits_45 (by decide) ?_
          refine lv_goto (tgt := 50) hx hb dX3_fits_46 (by decide) ?_
          exact wl_rz (r := 1) (True) hx hb hr hlocks (by rfl) (by first | (rw [q_ft, if_neg c1, if_neg c3, if_neg c5, if_neg c10]; done) | (rw [q_ft, if_neg c1, if_neg c3, if_neg c5, if_neg c10]; rfl)) dX3_fits_50
    · refine lv_iconst (v := 0) hx hb dX3_fits_22 (by decide) ?_
      exact wl_rz (r := 0) (False) hx hb hr hlocks (by rfl) (by first | (rw [q_ft, if_neg c1, if_pos c3]; done) | (rw [q_ft, if_neg c1, if_pos c3]; rfl)) dX3_fits_23
set_option maxHeartbeats 4000000 in
set_option maxRecDepth 100000 in
theorem m_X3_errorPlace (l : Launch) (D : va_G) (cy : Nat → ClassId) (a : Nat → Nat) (t : Nat → Nat → Int32) (n : Nat) (hn : t 1 0 = nI n) (hn2 : n ≤ 60) (hc : ∀ k, k < n → vp_nar .char (t 0 k) = t 0 k) : Met l yX3_errorPlace wsX3_errorPlace ({ frames := 2, cells := 0, slots := 0, locals := 44 } : Room) (wl_pc D cy [txW cy a t] [.ref (a 0)]) (vp_Si (fun r : Int32 => r = nI (q_ep t n))) 0 0 (fun _ => False) := by
  refine wl_ofP (cc := cX3_errorPlace) (maxL := 2) (ret := (some .int)) (by decide) rfl (Nat.le_of_ble_eq_true rfl) ?_
  intro p e s m below meth c ls hx hb hr hts hown hlocks hml hP hK hl
  have hl : lv_has ls 2 [(0, .ref (a 0))] := hl
  have lkf15 := hts (.fieldLink RX3 15 "WireLamps$Text" "length" "I") (by decide +kernel)
  have in_X3 : ∀ w ∈ u_ws RX3 TX3 2, w ∈ wsX3_errorPlace := by decide +kernel
  refine lv_iconst (v := 0) hx hb dX3_errorPlace_0 (by decide) ?_
  refine lv_istore_n (lv' := [(1, .int 0), (0, .ref (a 0))]) hx hb dX3_errorPlace_1 rfl hl (by decide) rfl (fun ls hl => ?_)
  suffices K1 : ∀ (n2 : Nat) (i : Nat), n - i < n2 → (i ≤ n) → (q_fst (q_ft t n) n 0 = q_fst (q_ft t n) (n - i) i) → ∀ (ls : Array Slot), lv_has ls 2 [(1, .int (nI i)), (0, .ref (a 0))] → W p l e ({ frames := 2, cells := 0, slots := 0, locals := 44 } : Room) s m ([.ref (a 0)] : List Value).toArray below meth c s.heap [] 0 0 (MQ below (vp_Si (fun r : Int32 => r = nI (q_ep t n))) ([.ref (a 0)] : List Value).toArray s 0 0 (fun _ => False)) (F0 m 2 ls []) from K1 (n + 1) 0 (by omega) (by omega) rfl _  (lv_sub hl [0, 1] rfl)
  intro n2
  induction n2 with
  | zero => intro i hm; exact absurd hm (Nat.not_lt_zero _)
  | succ n2 ih3 =>
    intro i hm hi hq ls  hl
    refine lv_iload_n hx hb dX3_errorPlace_2 rfl (lv_at hl 0 rfl) ?_
    refine lv_aload_n hx hb dX3_errorPlace_3 rfl (lv_at hl 1 rfl) ?_
    refine wl_getf (C := RX3) (T := TX3) (N := 2) (ci := 3) (v := .int (t 1 0)) hx hb hts in_X3 hown hK hP 0 0 rfl rfl rfl 1 (by decide) lkf15 rfl rfl dX3_errorPlace_4 ?_
    refine wl_top (y := nI n) hn ?_
    refine wl_icmp_ge (tgt := 26) hx hb i n dX3_errorPlace_7 (by decide) (by omega) (by omega) (fun c4 => ?_) (fun c4 => ?_)
    · refine lv_aload_n hx hb dX3_errorPlace_26 rfl (lv_at hl 1 rfl) ?_
      refine wl_getf (C := RX3) (T := TX3) (N := 2) (ci := 3) (v := .int (t 1 0)) hx hb hts in_X3 hown hK hP 0 0 rfl rfl rfl 1 (by decide) lkf15 rfl rfl dX3_errorPlace_27 ?_
      refine wl_top (y := nI n) hn ?_
      exact wl_ri (r := (nI n)) hx hb hr hlocks (by obtain rfl : i = n := (by omega); rw [q_ep, hq, Nat.sub_self]; rfl) dX3_errorPlace_30
    · refine lv_aload_n hx hb dX3_errorPlace_10 rfl (lv_at hl 1 rfl) ?_
      refine lv_iload_n hx hb dX3_errorPlace_11 rfl (lv_at hl 0 rfl) ?_
      refine wl_pV (As := [.int (nI i)]) (rest := []) ⟨hx, hb, hml, hown, hts⟩ (m_X3_fits l D cy a t i n hn (by omega) hc (by omega)) (cwV 1 hts gX3_errorPlace_X3_fits rfl rfl rfl (by decide +kernel) ⟨Nat.le_of_ble_eq_true rfl, Nat.le_of_ble_eq_true rfl⟩) hK hP [0] rfl rfl rfl rfl rfl rfl hl.1 rfl (Nat.le_of_ble_eq_true rfl) dX3_errorPlace_12 ⟨Nat.le_of_ble_eq_true rfl, Nat.le_of_ble_eq_true rfl⟩ (fun r5 er5 => ?_)
      have er5 : r5 = if (q_ft t n i = true) then 1 else 0 := er5
      refine wl_b_ne (tgt := 20) hx hb (q_ft t n i = true) er5 dX3_errorPlace_15 (by decide) (fun hft => ?_) (fun hft => ?_)
      · refine lv_iinc (v := nI (i + 1)) (lv' := [(1, .int (nI (i + 1))), (0, .ref (a 0))]) hx hb dX3_errorPlace_20 hl (k := 0) rfl (by rw [wl_inc]) (by decide) rfl (fun ls hl => ?_)
        refine lv_goto (tgt := 2) hx hb dX3_errorPlace_23 (by decide) ?_
        exact ih3 (i + 1) (by omega) (by omega) (by exact q_fst_in (by omega) hft hq) _  (lv_sub hl [0, 1] rfl)
      · refine lv_iload_n hx hb dX3_errorPlace_18 rfl (lv_at hl 0 rfl) ?_
        exact wl_ri (r := (nI i)) hx hb hr hlocks (by rw [q_ep, q_fst_out (by omega) hft hq]) dX3_errorPlace_19
set_option maxHeartbeats 4000000 in
set_option maxRecDepth 100000 in
theorem m_X3_endsWithGap (l : Launch) (D : va_G) (cy : Nat → ClassId) (a : Nat → Nat) (t : Nat → Nat → Int32) (n : Nat) (hn : t 1 0 = nI n) (hn2 : n ≤ 60) (hc : ∀ k, k < n → vp_nar .char (t 0 k) = t 0 k) : Met l yX3_endsWithGap wsX3_endsWithGap ({ frames := 1, cells := 0, slots := 0, locals := 21 } : Room) (wl_pc D cy [txW cy a t] [.ref (a 0)]) (vp_Si (fun r : Int32 => r = if (q_sg t n (nI n - 1) = 33) then 1 else 0)) 0 0 (fun _ => False) := by
  refine wl_ofP (cc := cX3_endsWithGap) (maxL := 1) (ret := (some .boolean)) (by decide) rfl (Nat.le_of_ble_eq_true rfl) ?_
  intro p e s m below meth c ls hx hb hr hts hown hlocks hml hP hK hl
  have hl : lv_has ls 1 [(0, .ref (a 0))] := hl
  have lkf15 := hts (.fieldLink RX3 15 "WireLamps$Text" "length" "I") (by decide +kernel)
  have in_X3 : ∀ w ∈ u_ws RX3 TX3 2, w ∈ wsX3_endsWithGap := by decide +kernel
  refine lv_aload_n hx hb dX3_endsWithGap_0 rfl (lv_at hl 0 rfl) ?_
  refine lv_aload_n hx hb dX3_endsWithGap_1 rfl (lv_at hl 0 rfl) ?_
  refine wl_getf (C := RX3) (T := TX3) (N := 2) (ci := 3) (v := .int (t 1 0)) hx hb hts in_X3 hown hK hP 0 0 rfl rfl rfl 1 (by decide) lkf15 rfl rfl dX3_endsWithGap_2 ?_
  refine wl_top (y := nI n) hn ?_
  refine lv_iconst (v := 1) hx hb dX3_endsWithGap_5 (by decide) ?_
  refine lv_isub hx hb dX3_endsWithGap_6 ?_
  refine wl_pV (As := [.int ((nI n) - 1)]) (rest := []) ⟨hx, hb, hml, hown, hts⟩ (m_X3_signAt l D cy a t ((nI n) - 1) n hn (by omega) hc) (cwV 1 hts gX3_endsWithGap_X3_signAt rfl rfl rfl (by decide +kernel) ⟨Nat.le_of_ble_eq_true rfl, Nat.le_of_ble_eq_true rfl⟩) hK hP [0] rfl rfl rfl rfl rfl rfl hl.1 rfl (Nat.le_of_ble_eq_true rfl) dX3_endsWithGap_7 ⟨Nat.le_of_ble_eq_true rfl, Nat.le_of_ble_eq_true rfl⟩ (fun r1 er1 => ?_)
  have er1 : r1 = q_sg t n ((nI n) - 1) := er1
  subst er1
  refine lv_bipush (v := 33) hx hb dX3_endsWithGap_10 (by decide) ?_
  refine lv_icmp_ne (tgt := 19) hx hb dX3_endsWithGap_12 (by decide) (fun c2 => ?_) (fun c2 => ?_)
  · refine lv_iconst (v := 0) hx hb dX3_endsWithGap_19 (by decide) ?_
    exact wl_rz (r := 0) (False) hx hb hr hlocks (by rfl) (by exact (if_neg (by first | assumption | omega | simp [c2] | simp_all)).symm) dX3_endsWithGap_20
  · refine lv_iconst (v := 1) hx hb dX3_endsWithGap_15 (by decide) ?_
    refine lv_goto (tgt := 20) hx hb dX3_endsWithGap_16 (by decide) ?_
    exact wl_rz (r := 1) (True) hx hb hr hlocks (by rfl) (by exact (if_pos (by first | assumption | omega | simp [c2] | simp_all)).symm) dX3_endsWithGap_20
set_option maxHeartbeats 4000000 in
set_option maxRecDepth 100000 in
theorem m_X3_wordsTold (l : Launch) (D : va_G) (cy : Nat → ClassId) (a : Nat → Nat) (t : Nat → Nat → Int32) (n : Nat) (hn : t 1 0 = nI n) (hn2 : n ≤ 60) (hc : ∀ k, k < n → vp_nar .char (t 0 k) = t 0 k) : Met l yX3_wordsTold wsX3_wordsTold ({ frames := 3, cells := 0, slots := 0, locals := 65 } : Room) (wl_pc D cy [txW cy a t] [.ref (a 0)]) (vp_Si (fun r : Int32 => r = nI (q_wt t n))) 0 0 (fun _ => False) := by
  refine wl_ofP (cc := cX3_wordsTold) (maxL := 2) (ret := (some .int)) (by decide) rfl (Nat.le_of_ble_eq_true rfl) ?_
  intro p e s m below meth c ls hx hb hr hts hown hlocks hml hP hK hl
  have hl : lv_has ls 2 [(0, .ref (a 0))] := hl
  have lkf15 := hts (.fieldLink RX3 15 "WireLamps$Text" "length" "I") (by decide +kernel)
  have in_X3 : ∀ w ∈ u_ws RX3 TX3 2, w ∈ wsX3_wordsTold := by decide +kernel
  refine lv_aload_n hx hb dX3_wordsTold_0 rfl (lv_at hl 0 rfl) ?_
  refine wl_pV (As := []) (rest := []) ⟨hx, hb, hml, hown, hts⟩ (m_X3_endsWithGap l D cy a t n hn (by omega) hc) (cwV 0 hts gX3_wordsTold_X3_endsWithGap rfl rfl rfl (by decide +kernel) ⟨Nat.le_of_ble_eq_true rfl, Nat.le_of_ble_eq_true rfl⟩) hK hP [0] rfl rfl rfl rfl rfl rfl hl.1 rfl (Nat.le_of_ble_eq_true rfl) dX3_wordsTold_1 ⟨Nat.le_of_ble_eq_true rfl, Nat.le_of_ble_eq_true rfl⟩ (fun r1 er1 => ?_)
  have er1 : r1 = if (q_sg t n (nI n - 1) = 33) then 1 else 0 := er1
  have K3 : ∀ (ls : Array Slot) (v2 : Nat), v2 = (if (q_sg t n (nI n - 1) = 33) then (n - 1) else n) → lv_has ls 2 [(0, .ref (a 0))] → W p l e ({ frames := 3, cells := 0, slots := 0, locals := 65 } : Room) s m ([.ref (a 0)] : List Value).toArray below meth c s.heap [] 0 0 (MQ below (vp_Si (fun r : Int32 => r = nI (q_wt t n))) ([.ref (a 0)] : List Value).toArray s 0 0 (fun _ => False)) (F0 m 20 ls [.int (nI v2)]) := by
    intro ls v2 ev2  hl
    have hm : v2 = q_wm0 t n := ev2
    rw [hm]
    have hm2 : q_wm0 t n ≤ n := by unfold q_wm0; split <;> omega
    refine lv_istore_n (lv' := [(1, .int (nI (q_wm0 t n))), (0, .ref (a 0))]) hx hb dX3_wordsTold_20 rfl hl (by decide) rfl (fun ls hl => ?_)
    refine lv_aload_n hx hb dX3_wordsTold_21 rfl (lv_at hl 1 rfl) ?_
    refine wl_pV (As := []) (rest := []) ⟨hx, hb, hml, hown, hts⟩ (m_X3_errorPlace l D cy a t n hn (by omega) hc) (cwV 0 hts gX3_wordsTold_X3_errorPlace rfl rfl rfl (by decide +kernel) ⟨Nat.le_of_ble_eq_true rfl, Nat.le_of_ble_eq_true rfl⟩) hK hP [0] rfl rfl rfl rfl rfl rfl hl.1 rfl (Nat.le_of_ble_eq_true rfl) dX3_wordsTold_22 ⟨Nat.le_of_ble_eq_true rfl, Nat.le_of_ble_eq_true rfl⟩ (fun r4 er4 => ?_)
    have er4 : r4 = nI (q_ep t n) := er4
    subst er4
    refine lv_aload_n hx hb dX3_wordsTold_25 rfl (lv_at hl 1 rfl) ?_
    have hepl := q_ep_le t n
    refine wl_getf (C := RX3) (T := TX3) (N := 2) (ci := 3) (v := .int (t 1 0)) hx hb hts in_X3 hown hK hP 0 0 rfl rfl rfl 1 (by decide) lkf15 rfl rfl dX3_wordsTold_26 ?_
    refine wl_top (y := nI n) hn ?_
    refine wl_icmp_lt (tgt := 39) hx hb (q_ep t n) n dX3_wordsTold_29 (by decide) (by omega) (by omega) (fun hep => ?_) (fun hep => ?_)
    · refine lv_iconst (v := 0) hx hb dX3_wordsTold_39 (by decide) ?_
      exact wl_ri (r := 0) hx hb hr hlocks (by rw [q_wt, if_pos hep]; rfl) dX3_wordsTold_40
    · refine lv_iload_n hx hb dX3_wordsTold_32 rfl (lv_at hl 0 rfl) ?_
      refine lv_iconst (v := 4) hx hb dX3_wordsTold_33 (by decide) ?_
      refine lv_irem hx hb dX3_wordsTold_34 (by decide) ?_
      refine wl_top (y := nI ((q_wm0 t n) % 4)) (pk_rem (a := q_wm0 t n) (d := 4) (by omega) (by omega) (by omega)) ?_
      refine lv_iconst (v := 3) hx hb dX3_wordsTold_35 (by decide) ?_
      refine wl_icmp_eq (tgt := 41) hx hb ((q_wm0 t n) % 4) 3 dX3_wordsTold_36 (by decide) (by omega) (by omega) (fun hm4 => ?_) (fun hm4 => ?_)
      · refine lv_iload_n hx hb dX3_wordsTold_41 rfl (lv_at hl 0 rfl) ?_
        refine lv_iconst (v := 1) hx hb dX3_wordsTold_42 (by decide) ?_
        refine lv_iadd hx hb dX3_wordsTold_43 ?_
        refine wl_top (y := nI ((q_wm0 t n) + 1)) (nI_add (q_wm0 t n) 1) ?_
        refine lv_iconst (v := 4) hx hb dX3_wordsTold_44 (by decide) ?_
        refine lv_idiv hx hb dX3_wordsTold_45 (by decide) ?_
        refine wl_top (y := nI (((q_wm0 t n) + 1) / 4)) (pk_div (a := (q_wm0 t n) + 1) (d := 4) (by omega) (by omega) (by omega)) ?_
        exact wl_ri (r := (nI (((q_wm0 t n) + 1) / 4))) hx hb hr hlocks (by rw [q_wt, if_neg hep, if_pos hm4]) dX3_wordsTold_46
      · refine lv_iconst (v := 0) hx hb dX3_wordsTold_39 (by decide) ?_
        exact wl_ri (r := 0) hx hb hr hlocks (by rw [q_wt, if_neg hep, if_neg hm4]; rfl) dX3_wordsTold_40
  refine wl_b_eq (tgt := 16) hx hb (q_sg t n (nI n - 1) = 33) er1 dX3_wordsTold_4 (by decide) (fun heg => ?_) (fun heg => ?_)
  · refine lv_aload_n hx hb dX3_wordsTold_16 rfl (lv_at hl 0 rfl) ?_
    refine wl_getf (C := RX3) (T := TX3) (N := 2) (ci := 3) (v := .int (t 1 0)) hx hb hts in_X3 hown hK hP 0 0 rfl rfl rfl 1 (by decide) lkf15 rfl rfl dX3_wordsTold_17 ?_
    refine wl_top (y := nI n) hn ?_
    exact K3 _ n (by rw [if_neg heg]) (lv_sub hl [0] rfl)
  · refine lv_aload_n hx hb dX3_wordsTold_7 rfl (lv_at hl 0 rfl) ?_
    refine wl_getf (C := RX3) (T := TX3) (N := 2) (ci := 3) (v := .int (t 1 0)) hx hb hts in_X3 hown hK hP 0 0 rfl rfl rfl 1 (by decide) lkf15 rfl rfl dX3_wordsTold_8 ?_
    refine wl_top (y := nI n) hn ?_
    refine lv_iconst (v := 1) hx hb dX3_wordsTold_11 (by decide) ?_
    refine lv_isub hx hb dX3_wordsTold_12 ?_
    refine wl_top (y := nI (n - 1)) (pk_sub (a := n) (b := 1) (by have := q_eg_pos heg; omega)) ?_
    refine lv_goto (tgt := 20) hx hb dX3_wordsTold_13 (by decide) ?_
    exact K3 _ (n - 1) (by rw [if_pos heg]) (lv_sub hl [0] rfl)
set_option maxHeartbeats 4000000 in
set_option maxRecDepth 100000 in
theorem m_X3_wordAt (l : Launch) (D : va_G) (cy : Nat → ClassId) (a : Nat → Nat) (t : Nat → Nat → Int32) (k n : Nat) (hn : t 1 0 = nI n) (hn2 : n ≤ 60) (hc : ∀ k, k < n → vp_nar .char (t 0 k) = t 0 k) (hk : k ≤ 100) : Met l yX3_wordAt wsX3_wordAt ({ frames := 1, cells := 0, slots := 0, locals := 21 } : Room) (wl_pc D cy [txW cy a t] [.ref (a 0), .int (nI k)]) (vp_Si (fun r : Int32 => r = q_wat t n k)) 0 0 (fun _ => False) := by
  refine wl_ofP (cc := cX3_wordAt) (maxL := 4) (ret := (some .int)) (by decide) rfl (Nat.le_of_ble_eq_true rfl) ?_
  intro p e s m below meth c ls hx hb hr hts hown hlocks hml hP hK hl
  have hl : lv_has ls 4 [(0, .ref (a 0)), (1, .int (nI k))] := hl
  refine lv_iconst (v := 0) hx hb dX3_wordAt_0 (by decide) ?_
  refine lv_istore_n (lv' := [(2, .int 0), (0, .ref (a 0)), (1, .int (nI k))]) hx hb dX3_wordAt_1 rfl hl (by decide) rfl (fun ls hl => ?_)
  refine lv_iconst (v := 0) hx hb dX3_wordAt_2 (by decide) ?_
  refine lv_istore_n (lv' := [(3, .int 0), (2, .int 0), (0, .ref (a 0)), (1, .int (nI k))]) hx hb dX3_wordAt_3 rfl hl (by decide) rfl (fun ls hl => ?_)
  suffices K1 : ∀ (n2 : Nat) (i : Nat), 3 - i < n2 → (i ≤ 3) → ∀ (ls : Array Slot), lv_has ls 4 [(3, .int (nI i)), (2, .int (q_hex (fun z => q_dg (q_sg t n (nI (k * 4 + z)))) i)), (0, .ref (a 0)), (1, .int (nI k))] → W p l e ({ frames := 1, cells := 0, slots := 0, locals := 21 } : Room) s m ([.ref (a 0), .int (nI k)] : List Value).toArray below meth c s.heap [] 0 0 (MQ below (vp_Si (fun r : Int32 => r = q_wat t n k)) ([.ref (a 0), .int (nI k)] : List Value).toArray s 0 0 (fun _ => False)) (F0 m 4 ls []) from K1 4 0 (by omega) (by omega) _  (lv_sub hl [0, 1, 2, 3] rfl)
  intro n2
  induction n2 with
  | zero => intro i hm; exact absurd hm (Nat.not_lt_zero _)
  | succ n2 ih3 =>
    intro i hm hi ls  hl
    refine lv_iload_n hx hb dX3_wordAt_4 rfl (lv_at hl 0 rfl) ?_
    refine lv_iconst (v := 3) hx hb dX3_wordAt_5 (by decide) ?_
    refine wl_icmp_ge (tgt := 33) hx hb i 3 dX3_wordAt_6 (by decide) (by omega) (by omega) (fun c4 => ?_) (fun c4 => ?_)
    · obtain rfl : i = 3 := by omega
      refine lv_iload_n hx hb dX3_wordAt_33 rfl (lv_at hl 1 rfl) ?_
      exact wl_ri (r := (q_hex (fun z => q_dg (q_sg t n (nI (k * 4 + z)))) 3)) hx hb hr hlocks (by rfl) dX3_wordAt_34
    · refine lv_bipush (v := 16) hx hb dX3_wordAt_9 (by decide) ?_
      refine lv_iload_n hx hb dX3_wordAt_11 rfl (lv_at hl 1 rfl) ?_
      refine lv_imul hx hb dX3_wordAt_12 ?_
      refine lv_aload_n hx hb dX3_wordAt_13 rfl (lv_at hl 2 rfl) ?_
      refine lv_iload_n hx hb dX3_wordAt_14 rfl (lv_at hl 3 rfl) ?_
      refine lv_iconst (v := 4) hx hb dX3_wordAt_15 (by decide) ?_
      refine lv_imul hx hb dX3_wordAt_16 ?_
      refine wl_top (y := nI (k * 4)) (pk_mul k 4) ?_
      refine lv_iload_n hx hb dX3_wordAt_17 rfl (lv_at hl 0 rfl) ?_
      refine lv_iadd hx hb dX3_wordAt_18 ?_
      refine wl_top (y := nI ((k * 4) + i)) (nI_add (k * 4) i) ?_
      refine wl_pV (As := [.int (nI ((k * 4) + i))]) (rest := [.int (16 * (q_hex (fun z => q_dg (q_sg t n (nI (k * 4 + z)))) i))]) ⟨hx, hb, hml, hown, hts⟩ (m_X3_signAt l D cy a t (nI ((k * 4) + i)) n hn (by omega) hc) (cwV 1 hts gX3_wordAt_X3_signAt rfl rfl rfl (by decide +kernel) ⟨Nat.le_of_ble_eq_true rfl, Nat.le_of_ble_eq_true rfl⟩) hK hP [0] rfl rfl rfl rfl rfl rfl hl.1 rfl (Nat.le_of_ble_eq_true rfl) dX3_wordAt_19 ⟨Nat.le_of_ble_eq_true rfl, Nat.le_of_ble_eq_true rfl⟩ (fun r5 er5 => ?_)
      have er5 : r5 = q_sg t n (nI ((k * 4) + i)) := er5
      subst er5
      refine wl_pS (As := [.int (q_sg t n (nI ((k * 4) + i)))]) (rest := [.int (16 * (q_hex (fun z => q_dg (q_sg t n (nI (k * 4 + z)))) i))]) ⟨hx, hb, hml, hown, hts⟩ (m_X3_digitOf l D cy (q_sg t n (nI ((k * 4) + i))) ) (va_cwS 1 hts gX3_wordAt_X3_digitOf rfl rfl rfl (by decide +kernel) ⟨Nat.le_of_ble_eq_true rfl, Nat.le_of_ble_eq_true rfl⟩) hK hP [] rfl rfl hl.1 rfl (Nat.le_of_ble_eq_true rfl) dX3_wordAt_22 ⟨Nat.le_of_ble_eq_true rfl, Nat.le_of_ble_eq_true rfl⟩ (fun r6 er6 => ?_)
      have er6 : r6 = q_dg (q_sg t n (nI ((k * 4) + i))) := er6
      subst er6
      refine lv_iadd hx hb dX3_wordAt_25 ?_
      refine lv_istore_n (lv' := [(2, .int ((16 * (q_hex (fun z => q_dg (q_sg t n (nI (k * 4 + z)))) i)) + (q_dg (q_sg t n (nI ((k * 4) + i)))))), (3, .int (nI i)), (0, .ref (a 0)), (1, .int (nI k))]) hx hb dX3_wordAt_26 rfl hl (by decide) rfl (fun ls hl => ?_)
      refine lv_iinc (v := nI (i + 1)) (lv' := [(3, .int (nI (i + 1))), (2, .int ((16 * (q_hex (fun z => q_dg (q_sg t n (nI (k * 4 + z)))) i)) + (q_dg (q_sg t n (nI ((k * 4) + i)))))), (0, .ref (a 0)), (1, .int (nI k))]) hx hb dX3_wordAt_27 hl (k := 1) rfl (by rw [wl_inc]) (by decide) rfl (fun ls hl => ?_)
      refine lv_goto (tgt := 4) hx hb dX3_wordAt_30 (by decide) ?_
      exact ih3 (i + 1) (by omega) (by omega) _  (lv_sub hl [0, 1, 2, 3] rfl)
