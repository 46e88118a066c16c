/-! WireLampsModel: signs and words of a text -/
set_option maxHeartbeats 4000000 in
set_option maxRecDepth 100000 in
theorem m_X5_digit (l : Launch) (D : va_G) (cy : Nat → ClassId) (x : Int32)  : Met l yX5_digit wsX5_digit ({ frames := 1, cells := 0, slots := 0, locals := 22 } : Room) (wl_pc D cy [] [.int x]) (vp_Si (fun r : Int32 => r = q_dg x)) 0 0 (fun _ => False) := by
  refine wl_ofP (cc := cX5_digit) (maxL := 1) (ret := (some .int)) (by decide) rfl (Nat.le_of_ble_eq_true rfl) ?_
  intro p e s m below meth c ls hx hb hr hts hown hlocks hml hP hK hl
  have hl : lv_has ls 1 [(0, .int x)] := hl
  refine lv_iload_n hx hb dX5_digit_0 rfl (lv_at hl 0 rfl) ?_
  refine lv_bipush (v := 48) hx hb dX5_digit_1 (by decide) ?_
  refine lv_bipush (v := 57) hx hb dX5_digit_3 (by decide) ?_
  refine wl_pS (As := [.int x, .int 48, .int 57]) (rest := []) ⟨hx, hb, hml, hown, hts⟩ (m_X5_in l D cy x 48 57 ) (va_cwS 3 hts gX5_digit_X5_in rfl rfl rfl (by decide +kernel) ⟨Nat.le_of_ble_eq_true rfl, Nat.le_of_ble_eq_true rfl⟩) hK hP [] rfl rfl hl.1 rfl (Nat.le_of_ble_eq_true rfl) dX5_digit_5 ⟨Nat.le_of_ble_eq_true rfl, Nat.le_of_ble_eq_true rfl⟩ (fun r1 er1 => ?_)
  have er1 : r1 = if (¬ x < 48 ∧ ¬ 57 < x) then 1 else 0 := er1
  refine wl_b_eq (tgt := 18) hx hb (¬ x < 48 ∧ ¬ 57 < x) er1 dX5_digit_8 (by decide) (fun c2 => ?_) (fun c2 => ?_)
  · refine lv_iload_n hx hb dX5_digit_18 rfl (lv_at hl 0 rfl) ?_
    refine lv_bipush (v := 97) hx hb dX5_digit_19 (by decide) ?_
    refine lv_bipush (v := 102) hx hb dX5_digit_21 (by decide) ?_
    refine wl_pS (As := [.int x, .int 97, .int 102]) (rest := []) ⟨hx, hb, hml, hown, hts⟩ (m_X5_in l D cy x 97 102 ) (va_cwS 3 hts gX5_digit_X5_in rfl rfl rfl (by decide +kernel) ⟨Nat.le_of_ble_eq_true rfl, Nat.le_of_ble_eq_true rfl⟩) hK hP [] rfl rfl hl.1 rfl (Nat.le_of_ble_eq_true rfl) dX5_digit_23 ⟨Nat.le_of_ble_eq_true rfl, Nat.le_of_ble_eq_true rfl⟩ (fun r3 er3 => ?_)
    have er3 : r3 = if (¬ x < 97 ∧ ¬ 102 < x) then 1 else 0 := er3
    refine wl_b_eq (tgt := 39) hx hb (¬ x < 97 ∧ ¬ 102 < x) er3 dX5_digit_26 (by decide) (fun c4 => ?_) (fun c4 => ?_)
    · refine lv_iconst (v := (-1)) hx hb dX5_digit_39 (by decide) ?_
      exact wl_ri (r := (-1)) hx hb hr hlocks (by rw [q_dg_d]; rw [if_neg c2]; rw [if_neg c4]) dX5_digit_40
    · refine lv_iload_n hx hb dX5_digit_29 rfl (lv_at hl 0 rfl) ?_
      refine lv_bipush (v := 97) hx hb dX5_digit_30 (by decide) ?_
      refine lv_isub hx hb dX5_digit_32 ?_
      refine lv_bipush (v := 10) hx hb dX5_digit_33 (by decide) ?_
      refine lv_iadd hx hb dX5_digit_35 ?_
      refine lv_goto (tgt := 40) hx hb dX5_digit_36 (by decide) ?_
      exact wl_ri (r := ((x - 97) + 10)) hx hb hr hlocks (by rw [q_dg_d]; rw [if_neg c2]; rw [if_pos c4]) dX5_digit_40
  · refine lv_iload_n hx hb dX5_digit_11 rfl (lv_at hl 0 rfl) ?_
    refine lv_bipush (v := 48) hx hb dX5_digit_12 (by decide) ?_
    refine lv_isub hx hb dX5_digit_14 ?_
    refine lv_goto (tgt := 40) hx hb dX5_digit_15 (by decide) ?_
    exact wl_ri (r := (x - 48)) hx hb hr hlocks (by rw [q_dg_d]; rw [if_pos c2]) dX5_digit_40
set_option maxHeartbeats 4000000 in
set_option maxRecDepth 100000 in
theorem m_X5_takesSign_T (l : Launch) (D : va_G) (cy : Nat → ClassId) (a : Nat → Nat) (u : Nat → Nat → Int32) (y : Int32) (w k : Nat) (sz : Nat) (hsp : u 6 6 = nI w) (hkk : u 6 1 = nI k) (hk2 : k ≤ 60) (hw2 : w ≤ 60) (h1 : ¬ k ≤ w) (h2 : u 4 w = y) : Met l yX5_takesSign wsX5_takesSign ({ frames := 0, cells := 0, slots := 0, locals := 0 } : Room) (wl_ic D cy (fun _ => True) [moW cy a u] sz [.ref (a 0), .int y]) (va_Qi (fun (r : Int32) (bs : List va_W) => r = 1 ∧ bs = [moW cy a (su u 6 6 (nI (w + 1)))]) (wl_ib D [moW cy a u] sz) (va_A ([moW cy a u] : List va_W).flatten sz)) 0 0 (va_A ([moW cy a u] : List va_W).flatten sz) := by
  refine wl_ofI (cc := cX5_takesSign) (maxL := 3) (ret := (some .boolean)) (by decide) rfl (Nat.le_of_ble_eq_true rfl) ?_
  intro p e s m below meth c ls A hx hb hr hts hown hlocks hml hnm hsz hAe hP hK hD hX hA hS hl
  have hl : lv_has ls 3 [(0, .ref (a 0)), (1, .int y)] := hl
  have lkf113 := hts (.fieldLink RX5 113 "WireLampsModel" "length" "I") (by decide +kernel)
  have lkf116 := hts (.fieldLink RX5 116 "WireLampsModel" "spot" "I") (by decide +kernel)
  have lkf23 := hts (.fieldLink RX5 23 "WireLampsModel" "text" "[I") (by decide +kernel)
  have in_X5 : ∀ w ∈ u_ws RX5 TX5 13, w ∈ wsX5_takesSign := by decide +kernel
  refine lv_aload_n hx hb dX5_takesSign_0 rfl (lv_at hl 0 rfl) ?_
  refine wl_getf (C := RX5) (T := TX5) (N := 13) (ci := 5) (v := .int (u 6 6)) hx hb hts in_X5 hown hK hP 0 0 rfl rfl rfl 12 (by decide) lkf116 rfl rfl dX5_takesSign_1 ?_
  refine wl_top (y := nI w) hsp ?_
  refine lv_aload_n hx hb dX5_takesSign_4 rfl (lv_at hl 0 rfl) ?_
  refine wl_getf (C := RX5) (T := TX5) (N := 13) (ci := 5) (v := .int (u 6 1)) hx hb hts in_X5 hown hK hP 0 0 rfl rfl rfl 6 (by decide) lkf113 rfl rfl dX5_takesSign_5 ?_
  refine wl_top (y := nI k) hkk ?_
  refine wl_icmp_ge (tgt := 28) hx hb w k dX5_takesSign_8 (by decide) (by omega) (by omega) (fun c1 => absurd c1 h1) (fun c1 => ?_)
  refine lv_aload_n hx hb dX5_takesSign_11 rfl (lv_at hl 0 rfl) ?_
  refine wl_getf (C := RX5) (T := TX5) (N := 13) (ci := 5) (v := .ref (a 5)) hx hb hts in_X5 hown hK hP 0 0 rfl rfl rfl 5 (by decide) lkf23 rfl rfl dX5_takesSign_12 ?_
  refine lv_aload_n hx hb dX5_takesSign_15 rfl (lv_at hl 0 rfl) ?_
  refine wl_getf (C := RX5) (T := TX5) (N := 13) (ci := 5) (v := .int (u 6 6)) hx hb hts in_X5 hown hK hP 0 0 rfl rfl rfl 12 (by decide) lkf116 rfl rfl dX5_takesSign_16 ?_
  refine wl_top (y := nI w) hsp ?_
  refine wl_iald hx hb hK hP 0 5 rfl rfl w (by omega) (Nat.le_of_ble_eq_true rfl) dX5_takesSign_19 ?_
  refine lv_iload_n hx hb dX5_takesSign_20 rfl (lv_at hl 1 rfl) ?_
  refine lv_icmp_ne (tgt := 28) hx hb dX5_takesSign_21 (by decide) (fun c2 => absurd h2 c2) (fun c2 => ?_)
  refine lv_iconst (v := 1) hx hb dX5_takesSign_24 (by decide) ?_
  refine lv_goto (tgt := 29) hx hb dX5_takesSign_25 (by decide) ?_
  refine lv_istore_n (lv' := [(2, .int 1), (0, .ref (a 0)), (1, .int y)]) hx hb dX5_takesSign_29 rfl hl (by decide) rfl (fun ls hl => ?_)
  refine lv_aload_n hx hb dX5_takesSign_30 rfl (lv_at hl 1 rfl) ?_
  refine lv_dup hx hb dX5_takesSign_31 rfl ?_
  refine wl_getf (C := RX5) (T := TX5) (N := 13) (ci := 5) (v := .int (u 6 6)) hx hb hts in_X5 hown hK hP 0 0 rfl rfl rfl 12 (by decide) lkf116 rfl rfl dX5_takesSign_32 ?_
  refine wl_top (y := nI w) hsp ?_
  refine lv_iload_n hx hb dX5_takesSign_35 rfl (lv_at hl 0 rfl) ?_
  refine wl_if_eq (tgt := 43) hx hb 1 dX5_takesSign_36 (by decide) (by omega) (fun c3 => absurd c3 (by omega)) (fun c3 => ?_)
  refine lv_iconst (v := 1) hx hb dX5_takesSign_39 (by decide) ?_
  refine lv_goto (tgt := 44) hx hb dX5_takesSign_40 (by decide) ?_
  refine lv_iadd hx hb dX5_takesSign_44 ?_
  refine wl_top (y := nI (w + 1)) (nI_add w 1) ?_
  refine wl_putf (C := RX5) (T := TX5) (N := 13) (ci := 5) (v := .int (nI (w + 1))) hx hb hts in_X5 tyX5 tyX5_ok nmX5 hown hK hP hD hS 0 0 rfl rfl rfl 12 (by decide) lkf116 rfl rfl rfl rfl (Nat.le_of_ble_eq_true rfl) dX5_takesSign_45 (fun H locs hP hD hS => ?_)
  have hP : va_P D vwCl ([moW cy a (su u 6 6 (nI (w + 1)))] : List va_W).flatten H := hP
  have hD : va_D A ([moW cy a (su u 6 6 (nI (w + 1)))] : List va_W).flatten := hD
  refine lv_iload_n hx hb dX5_takesSign_48 rfl (lv_at hl 0 rfl) ?_
  exact wl_Rz (bs := [moW cy a (su u 6 6 (nI (w + 1)))]) (r := 1) (True) hx hb hr hlocks hAe hP hD hS (by rfl) (by exact ⟨rfl, rfl⟩) dX5_takesSign_49
set_option maxHeartbeats 4000000 in
set_option maxRecDepth 100000 in
theorem m_X5_takesSign_K (l : Launch) (D : va_G) (cy : Nat → ClassId) (a : Nat → Nat) (u : Nat → Nat → Int32) (y : Int32) (w k : Nat) (sz : Nat) (hsp : u 6 6 = nI w) (hkk : u 6 1 = nI k) (hk2 : k ≤ 60) (hw2 : w ≤ 60) (h1 : k ≤ w) : Met l yX5_takesSign wsX5_takesSign ({ frames := 0, cells := 0, slots := 0, locals := 0 } : Room) (wl_ic D cy (fun _ => True) [moW cy a u] sz [.ref (a 0), .int y]) (va_Qi (fun (r : Int32) (bs : List va_W) => r = 0 ∧ bs = [moW cy a (su u 6 6 (nI w))]) (wl_ib D [moW cy a u] sz) (va_A ([moW cy a u] : List va_W).flatten sz)) 0 0 (va_A ([moW cy a u] : List va_W).flatten sz) := by
  refine wl_ofI (cc := cX5_takesSign) (maxL := 3) (ret := (some .boolean)) (by decide) rfl (Nat.le_of_ble_eq_true rfl) ?_
  intro p e s m below meth c ls A hx hb hr hts hown hlocks hml hnm hsz hAe hP hK hD hX hA hS hl
  have hl : lv_has ls 3 [(0, .ref (a 0)), (1, .int y)] := hl
  have lkf113 := hts (.fieldLink RX5 113 "WireLampsModel" "length" "I") (by decide +kernel)
  have lkf116 := hts (.fieldLink RX5 116 "WireLampsModel" "spot" "I") (by decide +kernel)
  have in_X5 : ∀ w ∈ u_ws RX5 TX5 13, w ∈ wsX5_takesSign := by decide +kernel
  refine lv_aload_n hx hb dX5_takesSign_0 rfl (lv_at hl 0 rfl) ?_
  refine wl_getf (C := RX5) (T := TX5) (N := 13) (ci := 5) (v := .int (u 6 6)) hx hb hts in_X5 hown hK hP 0 0 rfl rfl rfl 12 (by decide) lkf116 rfl rfl dX5_takesSign_1 ?_
  refine wl_top (y := nI w) hsp ?_
  refine lv_aload_n hx hb dX5_takesSign_4 rfl (lv_at hl 0 rfl) ?_
  refine wl_getf (C := RX5) (T := TX5) (N := 13) (ci := 5) (v := .int (u 6 1)) hx hb hts in_X5 hown hK hP 0 0 rfl rfl rfl 6 (by decide) lkf113 rfl rfl dX5_takesSign_5 ?_
  refine wl_top (y := nI k) hkk ?_
  refine wl_icmp_ge (tgt := 28) hx hb w k dX5_takesSign_8 (by decide) (by omega) (by omega) (fun c1 => ?_) (fun c1 => absurd h1 c1)
  refine lv_iconst (v := 0) hx hb dX5_takesSign_28 (by decide) ?_
  refine lv_istore_n (lv' := [(2, .int 0), (0, .ref (a 0)), (1, .int y)]) hx hb dX5_takesSign_29 rfl hl (by decide) rfl (fun ls hl => ?_)
  refine lv_aload_n hx hb dX5_takesSign_30 rfl (lv_at hl 1 rfl) ?_
  refine lv_dup hx hb dX5_takesSign_31 rfl ?_
  refine wl_getf (C := RX5) (T := TX5) (N := 13) (ci := 5) (v := .int (u 6 6)) hx hb hts in_X5 hown hK hP 0 0 rfl rfl rfl 12 (by decide) lkf116 rfl rfl dX5_takesSign_32 ?_
  refine wl_top (y := nI w) hsp ?_
  refine lv_iload_n hx hb dX5_takesSign_35 rfl (lv_at hl 0 rfl) ?_
  refine wl_if_eq (tgt := 43) hx hb 0 dX5_takesSign_36 (by decide) (by omega) (fun c2 => ?_) (fun c2 => absurd c2 (by decide))
  refine lv_iconst (v := 0) hx hb dX5_takesSign_43 (by decide) ?_
  refine lv_iadd hx hb dX5_takesSign_44 ?_
  refine wl_top (y := nI (w + 0)) (nI_add w 0) ?_
  refine wl_putf (C := RX5) (T := TX5) (N := 13) (ci := 5) (v := .int (nI (w + 0))) hx hb hts in_X5 tyX5 tyX5_ok nmX5 hown hK hP hD hS 0 0 rfl rfl rfl 12 (by decide) lkf116 rfl rfl rfl rfl (Nat.le_of_ble_eq_true rfl) dX5_takesSign_45 (fun H locs hP hD hS => ?_)
  have hP : va_P D vwCl ([moW cy a (su u 6 6 (nI (w + 0)))] : List va_W).flatten H := hP
  have hD : va_D A ([moW cy a (su u 6 6 (nI (w + 0)))] : List va_W).flatten := hD
  refine lv_iload_n hx hb dX5_takesSign_48 rfl (lv_at hl 0 rfl) ?_
  exact wl_Rz (bs := [moW cy a (su u 6 6 (nI (w + 0)))]) (r := 0) (False) hx hb hr hlocks hAe hP hD hS (by rfl) (by exact ⟨rfl, rfl⟩) dX5_takesSign_49
set_option maxHeartbeats 4000000 in
set_option maxRecDepth 100000 in
theorem m_X5_takesSign_F (l : Launch) (D : va_G) (cy : Nat → ClassId) (a : Nat → Nat) (u : Nat → Nat → Int32) (y : Int32) (w k : Nat) (sz : Nat) (hsp : u 6 6 = nI w) (hkk : u 6 1 = nI k) (hk2 : k ≤ 60) (hw2 : w ≤ 60) (h1 : ¬ k ≤ w) (h2 : ¬ u 4 w = y) : Met l yX5_takesSign wsX5_takesSign ({ frames := 0, cells := 0, slots := 0, locals := 0 } : Room) (wl_ic D cy (fun _ => True) [moW cy a u] sz [.ref (a 0), .int y]) (va_Qi (fun (r : Int32) (bs : List va_W) => r = 0 ∧ bs = [moW cy a (su u 6 6 (nI w))]) (wl_ib D [moW cy a u] sz) (va_A ([moW cy a u] : List va_W).flatten sz)) 0 0 (va_A ([moW cy a u] : List va_W).flatten sz) := by
  refine wl_ofI (cc := cX5_takesSign) (maxL := 3) (ret := (some .boolean)) (by decide) rfl (Nat.le_of_ble_eq_true rfl) ?_
  intro p e s m below meth c ls A hx hb hr hts hown hlocks hml hnm hsz hAe hP hK hD hX hA hS hl
  have hl : lv_has ls 3 [(0, .ref (a 0)), (1, .int y)] := hl
  have lkf113 := hts (.fieldLink RX5 113 "WireLampsModel" "length" "I") (by decide +kernel)
  have lkf116 := hts (.fieldLink RX5 116 "WireLampsModel" "spot" "I") (by decide +kernel)
  have lkf23 := hts (.fieldLink RX5 23 "WireLampsModel" "text" "[I") (by decide +kernel)
  have in_X5 : ∀ w ∈ u_ws RX5 TX5 13, w ∈ wsX5_takesSign := by decide +kernel
  refine lv_aload_n hx hb dX5_takesSign_0 rfl (lv_at hl 0 rfl) ?_
  refine wl_getf (C := RX5) (T := TX5) (N := 13) (ci := 5) (v := .int (u 6 6)) hx hb hts in_X5 hown hK hP 0 0 rfl rfl rfl 12 (by decide) lkf116 rfl rfl dX5_takesSign_1 ?_
  refine wl_top (y := nI w) hsp ?_
  refine lv_aload_n hx hb dX5_takesSign_4 rfl (lv_at hl 0 rfl) ?_
  refine wl_getf (C := RX5) (T := TX5) (N := 13) (ci := 5) (v := .int (u 6 1)) hx hb hts in_X5 hown hK hP 0 0 rfl rfl rfl 6 (by decide) lkf113 rfl rfl dX5_takesSign_5 ?_
  refine wl_top (y := nI k) hkk ?_
  refine wl_icmp_ge (tgt := 28) hx hb w k dX5_takesSign_8 (by decide) (by omega) (by omega) (fun c1 => absurd c1 h1) (fun c1 => ?_)
  refine lv_aload_n hx hb dX5_takesSign_11 rfl (lv_at hl 0 rfl) ?_
  refine wl_getf (C := RX5) (T := TX5) (N := 13) (ci := 5) (v := .ref (a 5)) hx hb hts in_X5 hown hK hP 0 0 rfl rfl rfl 5 (by decide) lkf23 rfl rfl dX5_takesSign_12 ?_
  refine lv_aload_n hx hb dX5_takesSign_15 rfl (lv_at hl 0 rfl) ?_
  refine wl_getf (C := RX5) (T := TX5) (N := 13) (ci := 5) (v := .int (u 6 6)) hx hb hts in_X5 hown hK hP 0 0 rfl rfl rfl 12 (by decide) lkf116 rfl rfl dX5_takesSign_16 ?_
  refine wl_top (y := nI w) hsp ?_
  refine wl_iald hx hb hK hP 0 5 rfl rfl w (by omega) (Nat.le_of_ble_eq_true rfl) dX5_takesSign_19 ?_
  refine lv_iload_n hx hb dX5_takesSign_20 rfl (lv_at hl 1 rfl) ?_
  refine lv_icmp_ne (tgt := 28) hx hb dX5_takesSign_21 (by decide) (fun c2 => ?_) (fun c2 => absurd c2 h2)
  refine lv_iconst (v := 0) hx hb dX5_takesSign_28 (by decide) ?_
  refine lv_istore_n (lv' := [(2, .int 0), (0, .ref (a 0)), (1, .int y)]) hx hb dX5_takesSign_29 rfl hl (by decide) rfl (fun ls hl => ?_)
  refine lv_aload_n hx hb dX5_takesSign_30 rfl (lv_at hl 1 rfl) ?_
  refine lv_dup hx hb dX5_takesSign_31 rfl ?_
  refine wl_getf (C := RX5) (T := TX5) (N := 13) (ci := 5) (v := .int (u 6 6)) hx hb hts in_X5 hown hK hP 0 0 rfl rfl rfl 12 (by decide) lkf116 rfl rfl dX5_takesSign_32 ?_
  refine wl_top (y := nI w) hsp ?_
  refine lv_iload_n hx hb dX5_takesSign_35 rfl (lv_at hl 0 rfl) ?_
  refine wl_if_eq (tgt := 43) hx hb 0 dX5_takesSign_36 (by decide) (by omega) (fun c3 => ?_) (fun c3 => absurd c3 (by decide))
  refine lv_iconst (v := 0) hx hb dX5_takesSign_43 (by decide) ?_
  refine lv_iadd hx hb dX5_takesSign_44 ?_
  refine wl_top (y := nI (w + 0)) (nI_add w 0) ?_
  refine wl_putf (C := RX5) (T := TX5) (N := 13) (ci := 5) (v := .int (nI (w + 0))) hx hb hts in_X5 tyX5 tyX5_ok nmX5 hown hK hP hD hS 0 0 rfl rfl rfl 12 (by decide) lkf116 rfl rfl rfl rfl (Nat.le_of_ble_eq_true rfl) dX5_takesSign_45 (fun H locs hP hD hS => ?_)
  have hP : va_P D vwCl ([moW cy a (su u 6 6 (nI (w + 0)))] : List va_W).flatten H := hP
  have hD : va_D A ([moW cy a (su u 6 6 (nI (w + 0)))] : List va_W).flatten := hD
  refine lv_iload_n hx hb dX5_takesSign_48 rfl (lv_at hl 0 rfl) ?_
  exact wl_Rz (bs := [moW cy a (su u 6 6 (nI (w + 0)))]) (r := 0) (False) hx hb hr hlocks hAe hP hD hS (by rfl) (by exact ⟨rfl, rfl⟩) dX5_takesSign_49
theorem m_X5_takesSign (l : Launch) (D : va_G) (cy : Nat → ClassId) (a : Nat → Nat) (u : Nat → Nat → Int32) (y : Int32) (w k : Nat) (sz : Nat) (hsp : u 6 6 = nI w) (hkk : u 6 1 = nI k) (hk2 : k ≤ 60) (hw2 : w ≤ 60) : Met l yX5_takesSign wsX5_takesSign ({ frames := 0, cells := 0, slots := 0, locals := 0 } : Room) (wl_ic D cy (fun _ => True) [moW cy a u] sz [.ref (a 0), .int y]) (va_Qi (fun (r : Int32) (bs : List va_W) => r = (if (¬ k ≤ w ∧ u 4 w = y) then 1 else 0) ∧ bs = [moW cy a (su u 6 6 (nI (if (¬ k ≤ w ∧ u 4 w = y) then w + 1 else w)))]) (wl_ib D [moW cy a u] sz) (va_A ([moW cy a u] : List va_W).flatten sz)) 0 0 (va_A ([moW cy a u] : List va_W).flatten sz) := by
  by_cases h1 : k ≤ w
  · rw [if_neg (fun q => q.1 h1), if_neg (fun q => q.1 h1)]
    exact m_X5_takesSign_K l D cy a u y w k sz hsp hkk hk2 hw2 h1
  · by_cases h2 : u 4 w = y
    · rw [if_pos ⟨h1, h2⟩, if_pos ⟨h1, h2⟩]
      exact m_X5_takesSign_T l D cy a u y w k sz hsp hkk hk2 hw2 h1 h2
    · rw [if_neg (fun q => h2 q.2), if_neg (fun q => h2 q.2)]
      exact m_X5_takesSign_F l D cy a u y w k sz hsp hkk hk2 hw2 h1 h2
set_option maxHeartbeats 4000000 in
set_option maxRecDepth 100000 in
theorem m_X5_readWord (l : Launch) (D : va_G) (cy : Nat → ClassId) (a : Nat → Nat) (u : Nat → Nat → Int32) (w k j : Nat) (sz : Nat) (hsp : u 6 6 = nI w) (hkk : u 6 1 = nI k) (hk2 : k ≤ 60) (hw2 : w ≤ 60) (hj : u 6 4 = nI j) (hj2 : j < 10) : Met l yX5_readWord wsX5_readWord ({ frames := 2, cells := 0, slots := 0, locals := 42 } : Room) (wl_ic D cy (fun _ => True) [moW cy a u] sz [.ref (a 0)]) (va_Qi (fun (r : Int32) (bs : List va_W) => r = (if (q_rc u k w = 3) then 1 else 0) ∧ bs = [moW cy a (q_rwo u k w j)]) (wl_ib D [moW cy a u] sz) (va_A ([moW cy a u] : List va_W).flatten sz)) 0 0 (va_A ([moW cy a u] : List va_W).flatten sz) := by
  refine wl_ofI (cc := cX5_readWord) (maxL := 4) (ret := (some .boolean)) (by decide) rfl (Nat.le_of_ble_eq_true rfl) ?_
  intro p e s m below meth c ls A hx hb hr hts hown hlocks hml hnm hsz hAe hP hK hD hX hA hS hl
  have hl : lv_has ls 4 [(0, .ref (a 0))] := hl
  have lkf113 := hts (.fieldLink RX5 113 "WireLampsModel" "length" "I") (by decide +kernel)
  have lkf116 := hts (.fieldLink RX5 116 "WireLampsModel" "spot" "I") (by decide +kernel)
  have lkf122 := hts (.fieldLink RX5 122 "WireLampsModel" "toldMany" "I") (by decide +kernel)
  have lkf23 := hts (.fieldLink RX5 23 "WireLampsModel" "text" "[I") (by decide +kernel)
  have lkf30 := hts (.fieldLink RX5 30 "WireLampsModel" "told" "[I") (by decide +kernel)
  have in_X5 : ∀ w ∈ u_ws RX5 TX5 13, w ∈ wsX5_readWord := by decide +kernel
  rw [(su_same hsp).symm] at hP hD
  refine lv_iconst (v := 0) hx hb dX5_readWord_0 (by decide) ?_
  refine lv_istore_n (lv' := [(1, .int 0), (0, .ref (a 0))]) hx hb dX5_readWord_1 rfl hl (by decide) rfl (fun ls hl => ?_)
  refine lv_iconst (v := 0) hx hb dX5_readWord_2 (by decide) ?_
  refine lv_istore_n (lv' := [(2, .int 0), (1, .int 0), (0, .ref (a 0))]) hx hb dX5_readWord_3 rfl hl (by decide) rfl (fun ls hl => ?_)
  suffices K1 : ∀ (n2 : Nat) (d : Nat), 3 - d < n2 → (d ≤ 3) → (∀ i, i < d → q_gd u k (w + i)) → ∀ (ls : Array Slot) (H : Heap) (locs : List Loc), va_P D vwCl ([moW cy a (su u 6 6 (nI (w + d)))] : List va_W).flatten H → va_D A ([moW cy a (su u 6 6 (nI (w + d)))] : List va_W).flatten → va_S A s.heap H locs → lv_has ls 4 [(2, .int (nI d)), (1, .int (q_hex (fun i => q_dg (u 4 (w + i))) d)), (0, .ref (a 0))] → W p l e ({ frames := 2, cells := 0, slots := 0, locals := 42 } : Room) s m ([.ref (a 0)] : List Value).toArray below meth c H locs 0 0 (MQ below (va_Qi (fun (r : Int32) (bs : List va_W) => r = (if (q_rc u k w = 3) then 1 else 0) ∧ bs = [moW cy a (q_rwo u k w j)]) (wl_ib D [moW cy a u] sz) (va_A ([moW cy a u] : List va_W).flatten sz)) ([.ref (a 0)] : List Value).toArray s 0 0 (va_A ([moW cy a u] : List va_W).flatten sz)) (F0 m 4 ls []) from K1 4 0 (by omega) (by omega) (fun i hi => absurd hi (Nat.not_lt_zero i)) _ _ _ hP hD hS (lv_sub hl [0, 1, 2] rfl)
  intro n2
  induction n2 with
  | zero => intro d hm; exact absurd hm (Nat.not_lt_zero _)
  | succ n2 ih3 =>
    intro d hm hd hG ls H locs hP hD hS hl
    refine lv_iload_n hx hb dX5_readWord_4 rfl (lv_at hl 0 rfl) ?_
    refine lv_iconst (v := 3) hx hb dX5_readWord_5 (by decide) ?_
    refine wl_icmp_ge (tgt := 67) hx hb d 3 dX5_readWord_6 (by decide) (by omega) (by omega) (fun c4 => ?_) (fun c4 => ?_)
    · obtain rfl : d = 3 := by omega
      refine lv_aload_n hx hb dX5_readWord_67 rfl (lv_at hl 2 rfl) ?_
      refine wl_getf (C := RX5) (T := TX5) (N := 13) (ci := 5) (v := .ref (a 6)) hx hb hts in_X5 hown hK hP 0 0 rfl rfl rfl 9 (by decide) lkf30 rfl rfl dX5_readWord_68 ?_
      refine lv_aload_n hx hb dX5_readWord_71 rfl (lv_at hl 2 rfl) ?_
      refine wl_getf (C := RX5) (T := TX5) (N := 13) (ci := 5) (v := .int ((su u 6 6 (nI (w + 3))) 6 4)) hx hb hts in_X5 hown hK hP 0 0 rfl rfl rfl 10 (by decide) lkf122 rfl rfl dX5_readWord_72 ?_
      refine wl_top (y := nI j) hj ?_
      refine lv_iload_n hx hb dX5_readWord_75 rfl (lv_at hl 1 rfl) ?_
      refine wl_iast hx hb hK hP hD hS 0 6 rfl rfl j (by omega) (Nat.le_of_ble_eq_true rfl) dX5_readWord_76 (fun H locs hP hD hS => ?_)
      have hP : va_P D vwCl ([moW cy a (su (su u 6 6 (nI (w + 3))) 5 j (q_hex (fun i => q_dg (u 4 (w + i))) 3))] : List va_W).flatten H := hP
      have hD : va_D A ([moW cy a (su (su u 6 6 (nI (w + 3))) 5 j (q_hex (fun i => q_dg (u 4 (w + i))) 3))] : List va_W).flatten := hD
      refine lv_aload_n hx hb dX5_readWord_77 rfl (lv_at hl 2 rfl) ?_
      refine lv_dup hx hb dX5_readWord_78 rfl ?_
      refine wl_getf (C := RX5) (T := TX5) (N := 13) (ci := 5) (v := .int ((su u 6 6 (nI (w + 3))) 6 4)) hx hb hts in_X5 hown hK hP 0 0 rfl rfl rfl 10 (by decide) lkf122 rfl rfl dX5_readWord_79 ?_
      refine wl_top (y := nI j) hj ?_
      refine lv_iconst (v := 1) hx hb dX5_readWord_82 (by decide) ?_
      refine lv_iadd hx hb dX5_readWord_83 ?_
      refine wl_top (y := nI (j + 1)) (nI_add j 1) ?_
      refine wl_putf (C := RX5) (T := TX5) (N := 13) (ci := 5) (v := .int (nI (j + 1))) hx hb hts in_X5 tyX5 tyX5_ok nmX5 hown hK hP hD hS 0 0 rfl rfl rfl 10 (by decide) lkf122 rfl rfl rfl rfl (Nat.le_of_ble_eq_true rfl) dX5_readWord_84 (fun H locs hP hD hS => ?_)
      have hP : va_P D vwCl ([moW cy a (su (su (su u 6 6 (nI (w + 3))) 5 j (q_hex (fun i => q_dg (u 4 (w + i))) 3)) 6 4 (nI (j + 1)))] : List va_W).flatten H := hP
      have hD : va_D A ([moW cy a (su (su (su u 6 6 (nI (w + 3))) 5 j (q_hex (fun i => q_dg (u 4 (w + i))) 3)) 6 4 (nI (j + 1)))] : List va_W).flatten := hD
      refine lv_iconst (v := 1) hx hb dX5_readWord_87 (by decide) ?_
      exact wl_Rz (bs := [moW cy a (su (su (su u 6 6 (nI (w + 3))) 5 j (q_hex (fun i => q_dg (u 4 (w + i))) 3)) 6 4 (nI (j + 1)))]) (r := 1) (True) hx hb hr hlocks hAe hP hD hS (by rfl) (by have hr := q_rc_good hG; exact ⟨(if_pos hr).symm, by rw [q_rwo, if_pos hr]; rfl⟩) dX5_readWord_88
    · refine lv_aload_n hx hb dX5_readWord_9 rfl (lv_at hl 2 rfl) ?_
      refine wl_getf (C := RX5) (T := TX5) (N := 13) (ci := 5) (v := .int ((su u 6 6 (nI (w + d))) 6 6)) hx hb hts in_X5 hown hK hP 0 0 rfl rfl rfl 12 (by decide) lkf116 rfl rfl dX5_readWord_10 ?_
      refine wl_top (y := nI (w + d)) rfl ?_
      refine lv_aload_n hx hb dX5_readWord_13 rfl (lv_at hl 2 rfl) ?_
      refine wl_getf (C := RX5) (T := TX5) (N := 13) (ci := 5) (v := .int ((su u 6 6 (nI (w + d))) 6 1)) hx hb hts in_X5 hown hK hP 0 0 rfl rfl rfl 6 (by decide) lkf113 rfl rfl dX5_readWord_14 ?_
      refine wl_top (y := nI k) hkk ?_
      have K7 : ∀ (ls : Array Slot) (H : Heap) (locs : List Loc) (v6 : Int32), v6 = (if k ≤ (w + d) then (-1) else (q_dg (u 4 (w + d)))) → va_P D vwCl ([moW cy a (su u 6 6 (nI (w + d)))] : List va_W).flatten H → va_D A ([moW cy a (su u 6 6 (nI (w + d)))] : List va_W).flatten → va_S A s.heap H locs → lv_has ls 4 [(2, .int (nI d)), (1, .int (q_hex (fun i => q_dg (u 4 (w + i))) d)), (0, .ref (a 0))] → W p l e ({ frames := 2, cells := 0, slots := 0, locals := 42 } : Room) s m ([.ref (a 0)] : List Value).toArray below meth c H locs 0 0 (MQ below (va_Qi (fun (r : Int32) (bs : List va_W) => r = (if (q_rc u k w = 3) then 1 else 0) ∧ bs = [moW cy a (q_rwo u k w j)]) (wl_ib D [moW cy a u] sz) (va_A ([moW cy a u] : List va_W).flatten sz)) ([.ref (a 0)] : List Value).toArray s 0 0 (va_A ([moW cy a u] : List va_W).flatten sz)) (F0 m 36 ls [.int v6]) := by
        intro ls H locs v6 ev6 hP hD hS hl
        refine lv_istore_n (lv' := [(3, .int v6), (2, .int (nI d)), (1, .int (q_hex (fun i => q_dg (u 4 (w + i))) d)), (0, .ref (a 0))]) hx hb dX5_readWord_36 rfl hl (by decide) rfl (fun ls hl => ?_)
        refine lv_iload_n hx hb dX5_readWord_37 rfl (lv_at hl 0 rfl) ?_
        refine lv_iconst (v := (-1)) hx hb dX5_readWord_38 (by decide) ?_
        refine lv_icmp_ne (tgt := 44) hx hb dX5_readWord_39 (by decide) (fun hne => ?_) (fun hne => ?_)
        · have hv8 : ¬ k ≤ w + d := fun q => hne (by rw [ev6]; exact if_pos q)
          have hv9 : v6 = q_dg (u 4 (w + d)) := by rw [ev6]; exact if_neg hv8
          replace hl : lv_has ls 4 [(3, .int (q_dg (u 4 (w + d)))), (2, .int (nI d)), (1, .int (q_hex (fun i => q_dg (u 4 (w + i))) d)), (0, .ref (a 0))] := by rw [hv9] at hl; exact hl
          rw [hv9] at hne
          refine lv_bipush (v := 16) hx hb dX5_readWord_44 (by decide) ?_
          refine lv_iload_n hx hb dX5_readWord_46 rfl (lv_at hl 2 rfl) ?_
          refine lv_imul hx hb dX5_readWord_47 ?_
          refine lv_iload_n hx hb dX5_readWord_48 rfl (lv_at hl 0 rfl) ?_
          refine lv_iadd hx hb dX5_readWord_49 ?_
          refine lv_istore_n (lv' := [(1, .int ((16 * (q_hex (fun i => q_dg (u 4 (w + i))) d)) + (q_dg (u 4 (w + d))))), (3, .int (q_dg (u 4 (w + d)))), (2, .int (nI d)), (0, .ref (a 0))]) hx hb dX5_readWord_50 rfl hl (by decide) rfl (fun ls hl => ?_)
          refine lv_aload_n hx hb dX5_readWord_51 rfl (lv_at hl 3 rfl) ?_
          refine lv_dup hx hb dX5_readWord_52 rfl ?_
          refine wl_getf (C := RX5) (T := TX5) (N := 13) (ci := 5) (v := .int ((su u 6 6 (nI (w + d))) 6 6)) hx hb hts in_X5 hown hK hP 0 0 rfl rfl rfl 12 (by decide) lkf116 rfl rfl dX5_readWord_53 ?_
          refine wl_top (y := nI (w + d)) rfl ?_
          refine lv_iconst (v := 1) hx hb dX5_readWord_56 (by decide) ?_
          refine lv_iadd hx hb dX5_readWord_57 ?_
          refine wl_top (y := nI ((w + d) + 1)) (nI_add (w + d) 1) ?_
          refine wl_putf (C := RX5) (T := TX5) (N := 13) (ci := 5) (v := .int (nI ((w + d) + 1))) hx hb hts in_X5 tyX5 tyX5_ok nmX5 hown hK hP hD hS 0 0 rfl rfl rfl 12 (by decide) lkf116 rfl rfl rfl rfl (Nat.le_of_ble_eq_true rfl) dX5_readWord_58 (fun H locs hP hD hS => ?_)
          have hP : va_P D vwCl ([moW cy a (su (su u 6 6 (nI (w + d))) 6 6 (nI ((w + d) + 1)))] : List va_W).flatten H := hP
          have hD : va_D A ([moW cy a (su (su u 6 6 (nI (w + d))) 6 6 (nI ((w + d) + 1)))] : List va_W).flatten := hD
          rw [su_su] at hP hD
          refine lv_iinc (v := nI (d + 1)) (lv' := [(2, .int (nI (d + 1))), (1, .int ((16 * (q_hex (fun i => q_dg (u 4 (w + i))) d)) + (q_dg (u 4 (w + d))))), (3, .int (q_dg (u 4 (w + d)))), (0, .ref (a 0))]) hx hb dX5_readWord_61 hl (k := 2) rfl (wl_inc d) (by decide) rfl (fun ls hl => ?_)
          refine lv_goto (tgt := 4) hx hb dX5_readWord_64 (by decide) ?_
          subst ev6
          exact ih3 (d + 1) (by omega) (by omega) (by intro i hi9; rcases Nat.lt_or_ge i d with q | q; exact hG i q; obtain rfl : i = d := (by omega); exact ⟨by omega, hne⟩) _ _ _ hP hD hS (lv_sub hl [0, 1, 3] rfl)
        · refine lv_iconst (v := 0) hx hb dX5_readWord_42 (by decide) ?_
          exact wl_Rz (bs := [moW cy a (su u 6 6 (nI (w + d)))]) (r := 0) (False) hx hb hr hlocks hAe hP hD hS (by rfl) (by subst ev6; have hb9 : ¬ q_gd u k (w + d) := fun q => (by have q1 := q.1; rw [if_neg (by omega)] at hne; exact q.2 hne); have hr := q_rc_bad (by omega) hG hb9; exact ⟨(if_neg (by omega)).symm, by rw [q_rwo, if_neg (by omega), hr]⟩) dX5_readWord_43
      refine wl_icmp_ge (tgt := 35) hx hb (w + d) k dX5_readWord_17 (by decide) (by omega) (by omega) (fun hle => ?_) (fun hle => ?_)
      · refine lv_iconst (v := (-1)) hx hb dX5_readWord_35 (by decide) ?_
        exact K7 _ _ _ (-1) (by rw [if_pos hle]) hP hD hS (lv_sub hl [0, 1, 2] rfl)
      · refine lv_aload_n hx hb dX5_readWord_20 rfl (lv_at hl 2 rfl) ?_
        refine wl_getf (C := RX5) (T := TX5) (N := 13) (ci := 5) (v := .ref (a 5)) hx hb hts in_X5 hown hK hP 0 0 rfl rfl rfl 5 (by decide) lkf23 rfl rfl dX5_readWord_21 ?_
        refine lv_aload_n hx hb dX5_readWord_24 rfl (lv_at hl 2 rfl) ?_
        refine wl_getf (C := RX5) (T := TX5) (N := 13) (ci := 5) (v := .int ((su u 6 6 (nI (w + d))) 6 6)) hx hb hts in_X5 hown hK hP 0 0 rfl rfl rfl 12 (by decide) lkf116 rfl rfl dX5_readWord_25 ?_
        refine wl_top (y := nI (w + d)) rfl ?_
        refine wl_iald hx hb hK hP 0 5 rfl rfl (w + d) (by omega) (Nat.le_of_ble_eq_true rfl) dX5_readWord_28 ?_
        refine wl_top (y := u 4 (w + d)) rfl ?_
        refine wl_pS (As := [.int (u 4 (w + d))]) (rest := []) ⟨hx, hb, hml, hown, hts⟩ (m_X5_digit l D cy (u 4 (w + d)) ) (va_cwS 1 hts gX5_readWord_X5_digit rfl rfl rfl (by decide +kernel) ⟨Nat.le_of_ble_eq_true rfl, Nat.le_of_ble_eq_true rfl⟩) hK hP [] rfl rfl hl.1 rfl (Nat.le_of_ble_eq_true rfl) dX5_readWord_29 ⟨Nat.le_of_ble_eq_true rfl, Nat.le_of_ble_eq_true rfl⟩ (fun r5 er5 => ?_)
        have er5 : r5 = q_dg (u 4 (w + d)) := er5
        subst er5
        refine lv_goto (tgt := 36) hx hb dX5_readWord_32 (by decide) ?_
        exact K7 _ _ _ (q_dg (u 4 (w + d))) (by rw [if_neg hle]) hP hD hS (lv_sub hl [0, 1, 2] rfl)
