/-! WireLampsModel: the row, pulses, words -/
set_option maxHeartbeats 4000000 in
set_option maxRecDepth 100000 in
theorem m_X5_in (l : Launch) (D : va_G) (cy : Nat → ClassId) (y lo hi : Int32)  : Met l yX5_in wsX5_in ({ frames := 0, cells := 0, slots := 0, locals := 0 } : Room) (wl_pc D cy [] [.int y, .int lo, .int hi]) (vp_Si (fun r : Int32 => r = if (¬ y < lo ∧ ¬ hi < y) then 1 else 0)) 0 0 (fun _ => False) := by
  refine wl_ofP (cc := cX5_in) (maxL := 3) (ret := (some .boolean)) (by decide) rfl (Nat.le_of_ble_eq_true rfl) ?_
  intro p e s m below meth c ls hx hb hr hts hown hlocks hml hP hK hl
  have hl : lv_has ls 3 [(0, .int y), (1, .int lo), (2, .int hi)] := hl
  refine lv_iload_n hx hb dX5_in_0 rfl (lv_at hl 0 rfl) ?_
  refine lv_iload_n hx hb dX5_in_1 rfl (lv_at hl 1 rfl) ?_
  refine lv_icmp_lt (tgt := 14) hx hb dX5_in_2 (by decide) (fun c1 => ?_) (fun c1 => ?_)
  · refine lv_iconst (v := 0) hx hb dX5_in_14 (by decide) ?_
    exact wl_rz (r := 0) (False) hx hb hr hlocks (by rfl) (by exact (if_neg (by first | assumption | omega | simp [c1] | simp_all)).symm) dX5_in_15
  · refine lv_iload_n hx hb dX5_in_5 rfl (lv_at hl 0 rfl) ?_
    refine lv_iload_n hx hb dX5_in_6 rfl (lv_at hl 2 rfl) ?_
    refine lv_icmp_gt (tgt := 14) hx hb dX5_in_7 (by decide) (fun c2 => ?_) (fun c2 => ?_)
    · refine lv_iconst (v := 0) hx hb dX5_in_14 (by decide) ?_
      exact wl_rz (r := 0) (False) hx hb hr hlocks (by rfl) (by exact (if_neg (by first | assumption | omega | simp [c1, c2] | simp_all)).symm) dX5_in_15
    · refine lv_iconst (v := 1) hx hb dX5_in_10 (by decide) ?_
      refine lv_goto (tgt := 15) hx hb dX5_in_11 (by decide) ?_
      exact wl_rz (r := 1) (True) hx hb hr hlocks (by rfl) (by exact (if_pos (by first | assumption | omega | simp [c1, c2] | simp_all)).symm) dX5_in_15
set_option maxHeartbeats 4000000 in
set_option maxRecDepth 100000 in
theorem m_X5_isLamp (l : Launch) (D : va_G) (cy : Nat → ClassId) (y : Int32)  : Met l yX5_isLamp wsX5_isLamp ({ frames := 1, cells := 0, slots := 0, locals := 22 } : Room) (wl_pc D cy [] [.int y]) (vp_Si (fun r : Int32 => r = if (¬ y < 0 ∧ ¬ 7 < y) then 1 else 0)) 0 0 (fun _ => False) := by
  refine wl_ofP (cc := cX5_isLamp) (maxL := 1) (ret := (some .boolean)) (by decide) rfl (Nat.le_of_ble_eq_true rfl) ?_
  intro p e s m below meth c ls hx hb hr hts hown hlocks hml hP hK hl
  have hl : lv_has ls 1 [(0, .int y)] := hl
  refine lv_iload_n hx hb dX5_isLamp_0 rfl (lv_at hl 0 rfl) ?_
  refine lv_iconst (v := 0) hx hb dX5_isLamp_1 (by decide) ?_
  refine lv_bipush (v := 7) hx hb dX5_isLamp_2 (by decide) ?_
  refine wl_pS (As := [.int y, .int 0, .int 7]) (rest := []) ⟨hx, hb, hml, hown, hts⟩ (m_X5_in l D cy y 0 7 ) (va_cwS 3 hts gX5_isLamp_X5_in rfl rfl rfl (by decide +kernel) ⟨Nat.le_of_ble_eq_true rfl, Nat.le_of_ble_eq_true rfl⟩) hK hP [] rfl rfl hl.1 rfl (Nat.le_of_ble_eq_true rfl) dX5_isLamp_4 ⟨Nat.le_of_ble_eq_true rfl, Nat.le_of_ble_eq_true rfl⟩ (fun r1 er1 => ?_)
  have er1 : r1 = if (¬ y < 0 ∧ ¬ 7 < y) then 1 else 0 := er1
  exact wl_rz (r := r1) ((¬ y < 0 ∧ ¬ 7 < y)) hx hb hr hlocks er1 (by exact er1) dX5_isLamp_7
set_option maxHeartbeats 4000000 in
set_option maxRecDepth 100000 in
theorem m_X5_isValue (l : Launch) (D : va_G) (cy : Nat → ClassId) (i : Nat) (y : Int32) (hi : i < 3) : Met l yX5_isValue wsX5_isValue ({ frames := 1, cells := 0, slots := 0, locals := 22 } : Room) (wl_pc D cy [] [.int (nI i), .int y]) (vp_Si (fun r : Int32 => r = if (¬ y < nI (q_lo3 i) ∧ ¬ nI (q_hi3 i) < y) then 1 else 0)) 0 0 (fun _ => False) := by
  refine wl_ofP (cc := cX5_isValue) (maxL := 2) (ret := (some .boolean)) (by decide) rfl (Nat.le_of_ble_eq_true rfl) ?_
  intro p e s m below meth c ls hx hb hr hts hown hlocks hml hP hK hl
  have hl : lv_has ls 2 [(0, .int (nI i)), (1, .int y)] := hl
  refine lv_iload_n hx hb dX5_isValue_0 rfl (lv_at hl 0 rfl) ?_
  refine wl_if_ne (tgt := 14) hx hb i dX5_isValue_1 (by decide) (by omega) (fun ci0 => ?_) (fun ci0 => ?_)
  · refine lv_iload_n hx hb dX5_isValue_14 rfl (lv_at hl 0 rfl) ?_
    refine lv_iconst (v := 1) hx hb dX5_isValue_15 (by decide) ?_
    refine wl_icmp_ne (tgt := 28) hx hb i 1 dX5_isValue_16 (by decide) (by omega) (by omega) (fun ci1 => ?_) (fun ci1 => ?_)
    · refine lv_iload_n hx hb dX5_isValue_28 rfl (lv_at hl 1 rfl) ?_
      refine lv_iconst (v := 0) hx hb dX5_isValue_29 (by decide) ?_
      refine lv_sipush (v := 360) hx hb dX5_isValue_30 (by decide) ?_
      refine wl_pS (As := [.int y, .int 0, .int 360]) (rest := []) ⟨hx, hb, hml, hown, hts⟩ (m_X5_in l D cy y 0 360 ) (va_cwS 3 hts gX5_isValue_X5_in rfl rfl rfl (by decide +kernel) ⟨Nat.le_of_ble_eq_true rfl, Nat.le_of_ble_eq_true rfl⟩) hK hP [] rfl rfl hl.1 rfl (Nat.le_of_ble_eq_true rfl) dX5_isValue_33 ⟨Nat.le_of_ble_eq_true rfl, Nat.le_of_ble_eq_true rfl⟩ (fun r1 er1 => ?_)
      have er1 : r1 = if (¬ y < 0 ∧ ¬ 360 < y) then 1 else 0 := er1
      exact wl_rz (r := r1) ((¬ y < 0 ∧ ¬ 360 < y)) hx hb hr hlocks er1 (by obtain rfl : i = 2 := (by omega); exact er1) dX5_isValue_36
    · refine lv_iload_n hx hb dX5_isValue_19 rfl (lv_at hl 1 rfl) ?_
      refine lv_iconst (v := 0) hx hb dX5_isValue_20 (by decide) ?_
      refine lv_iconst (v := 1) hx hb dX5_isValue_21 (by decide) ?_
      refine wl_pS (As := [.int y, .int 0, .int 1]) (rest := []) ⟨hx, hb, hml, hown, hts⟩ (m_X5_in l D cy y 0 1 ) (va_cwS 3 hts gX5_isValue_X5_in rfl rfl rfl (by decide +kernel) ⟨Nat.le_of_ble_eq_true rfl, Nat.le_of_ble_eq_true rfl⟩) hK hP [] rfl rfl hl.1 rfl (Nat.le_of_ble_eq_true rfl) dX5_isValue_22 ⟨Nat.le_of_ble_eq_true rfl, Nat.le_of_ble_eq_true rfl⟩ (fun r2 er2 => ?_)
      have er2 : r2 = if (¬ y < 0 ∧ ¬ 1 < y) then 1 else 0 := er2
      refine lv_goto (tgt := 36) hx hb dX5_isValue_25 (by decide) ?_
      exact wl_rz (r := r2) ((¬ y < 0 ∧ ¬ 1 < y)) hx hb hr hlocks er2 (by subst ci1; exact er2) dX5_isValue_36
  · refine lv_iload_n hx hb dX5_isValue_4 rfl (lv_at hl 1 rfl) ?_
    refine lv_iconst (v := 2) hx hb dX5_isValue_5 (by decide) ?_
    refine lv_bipush (v := 12) hx hb dX5_isValue_6 (by decide) ?_
    refine wl_pS (As := [.int y, .int 2, .int 12]) (rest := []) ⟨hx, hb, hml, hown, hts⟩ (m_X5_in l D cy y 2 12 ) (va_cwS 3 hts gX5_isValue_X5_in rfl rfl rfl (by decide +kernel) ⟨Nat.le_of_ble_eq_true rfl, Nat.le_of_ble_eq_true rfl⟩) hK hP [] rfl rfl hl.1 rfl (Nat.le_of_ble_eq_true rfl) dX5_isValue_8 ⟨Nat.le_of_ble_eq_true rfl, Nat.le_of_ble_eq_true rfl⟩ (fun r3 er3 => ?_)
    have er3 : r3 = if (¬ y < 2 ∧ ¬ 12 < y) then 1 else 0 := er3
    refine lv_goto (tgt := 36) hx hb dX5_isValue_11 (by decide) ?_
    exact wl_rz (r := r3) ((¬ y < 2 ∧ ¬ 12 < y)) hx hb hr hlocks er3 (by subst ci0; exact er3) dX5_isValue_36
set_option maxHeartbeats 4000000 in
set_option maxRecDepth 100000 in
theorem m_X5_thrown (l : Launch) (D : va_G) (cy : Nat → ClassId) (a : Nat → Nat) (u : Nat → Nat → Int32)  : Met l yX5_thrown wsX5_thrown ({ frames := 0, cells := 0, slots := 0, locals := 0 } : Room) (wl_pc D cy [moW cy a u] [.ref (a 0)]) (vp_Si (fun r : Int32 => r = u 6 2)) 0 0 (fun _ => False) := by
  refine wl_ofP (cc := cX5_thrown) (maxL := 1) (ret := (some .int)) (by decide) rfl (Nat.le_of_ble_eq_true rfl) ?_
  intro p e s m below meth c ls hx hb hr hts hown hlocks hml hP hK hl
  have hl : lv_has ls 1 [(0, .ref (a 0))] := hl
  have lkf33 := hts (.fieldLink RX5 33 "WireLampsModel" "thrown" "I") (by decide +kernel)
  have in_X5 : ∀ w ∈ u_ws RX5 TX5 13, w ∈ wsX5_thrown := by decide +kernel
  refine lv_aload_n hx hb dX5_thrown_0 rfl (lv_at hl 0 rfl) ?_
  refine wl_getf (C := RX5) (T := TX5) (N := 13) (ci := 5) (v := .int (u 6 2)) hx hb hts in_X5 hown hK hP 0 0 rfl rfl rfl 7 (by decide) lkf33 rfl rfl dX5_thrown_1 ?_
  exact wl_ri (r := (u 6 2)) hx hb hr hlocks (by rfl) dX5_thrown_4
set_option maxHeartbeats 4000000 in
set_option maxRecDepth 100000 in
theorem m_X5_refused (l : Launch) (D : va_G) (cy : Nat → ClassId) (a : Nat → Nat) (u : Nat → Nat → Int32) (w : Nat) (sz : Nat) (hw : w < 2 ^ 30) : Met l yX5_refused wsX5_refused ({ frames := 0, cells := 0, slots := 0, locals := 0 } : Room) (wl_ic D cy (fun _ => True) [moW cy a u] sz [.ref (a 0), .int (nI w)]) (va_Qi (fun (r : Int32) (bs : List va_W) => r = (if (0 < w) then 1 else 0) ∧ bs = [moW cy a (su u 6 2 (nI w))]) (wl_ib D [moW cy a u] sz) (va_A ([moW cy a u] : List va_W).flatten sz)) 0 0 (va_A ([moW cy a u] : List va_W).flatten sz) := by
  refine wl_ofI (cc := cX5_refused) (maxL := 2) (ret := (some .boolean)) (by decide) rfl (Nat.le_of_ble_eq_true rfl) ?_
  intro p e s m below meth c ls A hx hb hr hts hown hlocks hml hnm hsz hAe hP hK hD hX hA hS hl
  have hl : lv_has ls 2 [(0, .ref (a 0)), (1, .int (nI w))] := hl
  have lkf33 := hts (.fieldLink RX5 33 "WireLampsModel" "thrown" "I") (by decide +kernel)
  have in_X5 : ∀ w ∈ u_ws RX5 TX5 13, w ∈ wsX5_refused := by decide +kernel
  refine lv_aload_n hx hb dX5_refused_0 rfl (lv_at hl 0 rfl) ?_
  refine lv_iload_n hx hb dX5_refused_1 rfl (lv_at hl 1 rfl) ?_
  refine wl_putf (C := RX5) (T := TX5) (N := 13) (ci := 5) (v := .int (nI w)) hx hb hts in_X5 tyX5 tyX5_ok nmX5 hown hK hP hD hS 0 0 rfl rfl rfl 7 (by decide) lkf33 rfl rfl rfl rfl (Nat.le_of_ble_eq_true rfl) dX5_refused_2 (fun H locs hP hD hS => ?_)
  have hP : va_P D vwCl ([moW cy a (su u 6 2 (nI w))] : List va_W).flatten H := hP
  have hD : va_D A ([moW cy a (su u 6 2 (nI w))] : List va_W).flatten := hD
  refine lv_iload_n hx hb dX5_refused_5 rfl (lv_at hl 1 rfl) ?_
  refine wl_if_le (tgt := 13) hx hb w dX5_refused_6 (by decide) (by omega) (fun c1 => ?_) (fun c1 => ?_)
  · refine lv_iconst (v := 0) hx hb dX5_refused_13 (by decide) ?_
    exact wl_Rz (bs := [moW cy a (su u 6 2 (nI w))]) (r := 0) (False) hx hb hr hlocks hAe hP hD hS (by rfl) (by exact ⟨(if_neg (by omega)).symm, rfl⟩) dX5_refused_14
  · refine lv_iconst (v := 1) hx hb dX5_refused_9 (by decide) ?_
    refine lv_goto (tgt := 14) hx hb dX5_refused_10 (by decide) ?_
    exact wl_Rz (bs := [moW cy a (su u 6 2 (nI w))]) (r := 1) (True) hx hb hr hlocks hAe hP hD hS (by rfl) (by exact ⟨(if_pos (by omega)).symm, rfl⟩) dX5_refused_14
set_option maxHeartbeats 4000000 in
set_option maxRecDepth 100000 in
theorem m_X5_isTaker (l : Launch) (D : va_G) (cy : Nat → ClassId) (a : Nat → Nat) (u : Nat → Nat → Int32) (j : Nat) (hj : j < 8) : Met l yX5_isTaker wsX5_isTaker ({ frames := 0, cells := 0, slots := 0, locals := 0 } : Room) (wl_pc D cy [moW cy a u] [.ref (a 0), .int (nI j)]) (vp_Si (fun r : Int32 => r = if (zv u 0 j = 0 ∨ zv u 0 j = 1) then 1 else 0)) 0 0 (fun _ => False) := by
  refine wl_ofP (cc := cX5_isTaker) (maxL := 2) (ret := (some .boolean)) (by decide) rfl (Nat.le_of_ble_eq_true rfl) ?_
  intro p e s m below meth c ls hx hb hr hts hown hlocks hml hP hK hl
  have hl : lv_has ls 2 [(0, .ref (a 0)), (1, .int (nI j))] := hl
  have lkf7 := hts (.fieldLink RX5 7 "WireLampsModel" "z" "[I") (by decide +kernel)
  have in_X5 : ∀ w ∈ u_ws RX5 TX5 13, w ∈ wsX5_isTaker := by decide +kernel
  refine lv_aload_n hx hb dX5_isTaker_0 rfl (lv_at hl 0 rfl) ?_
  refine wl_getf (C := RX5) (T := TX5) (N := 13) (ci := 5) (v := .ref (a 1)) hx hb hts in_X5 hown hK hP 0 0 rfl rfl rfl 0 (by decide) lkf7 rfl rfl dX5_isTaker_1 ?_
  refine lv_iconst (v := 0) hx hb dX5_isTaker_4 (by decide) ?_
  refine lv_iload_n hx hb dX5_isTaker_5 rfl (lv_at hl 1 rfl) ?_
  refine lv_iadd hx hb dX5_isTaker_6 ?_
  refine wl_top (y := nI (0 + j)) (nI_add 0 j) ?_
  refine wl_iald hx hb hK hP 0 1 rfl rfl (0 + j) (by omega) (Nat.le_of_ble_eq_true rfl) dX5_isTaker_7 ?_
  refine wl_top (y := zv u 0 j) rfl ?_
  refine lv_if_eq (tgt := 23) hx hb dX5_isTaker_8 (by decide) (fun c1 => ?_) (fun c1 => ?_)
  · refine lv_iconst (v := 1) hx hb dX5_isTaker_23 (by decide) ?_
    refine lv_goto (tgt := 28) hx hb dX5_isTaker_24 (by decide) ?_
    exact wl_rz (r := 1) (True) hx hb hr hlocks (by rfl) (by exact (if_pos (by first | assumption | omega | simp [c1] | simp_all)).symm) dX5_isTaker_28
  · refine lv_aload_n hx hb dX5_isTaker_11 rfl (lv_at hl 0 rfl) ?_
    refine wl_getf (C := RX5) (T := TX5) (N := 13) (ci := 5) (v := .ref (a 1)) hx hb hts in_X5 hown hK hP 0 0 rfl rfl rfl 0 (by decide) lkf7 rfl rfl dX5_isTaker_12 ?_
    refine lv_iconst (v := 0) hx hb dX5_isTaker_15 (by decide) ?_
    refine lv_iload_n hx hb dX5_isTaker_16 rfl (lv_at hl 1 rfl) ?_
    refine lv_iadd hx hb dX5_isTaker_17 ?_
    refine wl_top (y := nI (0 + j)) (nI_add 0 j) ?_
    refine wl_iald hx hb hK hP 0 1 rfl rfl (0 + j) (by omega) (Nat.le_of_ble_eq_true rfl) dX5_isTaker_18 ?_
    refine wl_top (y := zv u 0 j) rfl ?_
    refine lv_iconst (v := 1) hx hb dX5_isTaker_19 (by decide) ?_
    refine lv_icmp_ne (tgt := 27) hx hb dX5_isTaker_20 (by decide) (fun c2 => ?_) (fun c2 => ?_)
    · refine lv_iconst (v := 0) hx hb dX5_isTaker_27 (by decide) ?_
      exact wl_rz (r := 0) (False) hx hb hr hlocks (by rfl) (by exact (if_neg (by first | assumption | omega | simp [c1, c2] | simp_all)).symm) dX5_isTaker_28
    · refine lv_iconst (v := 1) hx hb dX5_isTaker_23 (by decide) ?_
      refine lv_goto (tgt := 28) hx hb dX5_isTaker_24 (by decide) ?_
      exact wl_rz (r := 1) (True) hx hb hr hlocks (by rfl) (by exact (if_pos (by first | assumption | omega | simp [c1, c2] | simp_all)).symm) dX5_isTaker_28
set_option maxHeartbeats 4000000 in
set_option maxRecDepth 100000 in
theorem m_X5_isCut (l : Launch) (D : va_G) (cy : Nat → ClassId) (a : Nat → Nat) (u : Nat → Nat → Int32) (j : Nat) (hj : j ≤ 8) : Met l yX5_isCut wsX5_isCut ({ frames := 0, cells := 0, slots := 0, locals := 0 } : Room) (wl_pc D cy [moW cy a u] [.ref (a 0), .int (nI j)]) (vp_Si (fun r : Int32 => r = if (q_cut (zv u) j = true) then 1 else 0)) 0 0 (fun _ => False) := by
  refine wl_ofP (cc := cX5_isCut) (maxL := 4) (ret := (some .boolean)) (by decide) rfl (Nat.le_of_ble_eq_true rfl) ?_
  intro p e s m below meth c ls hx hb hr hts hown hlocks hml hP hK hl
  have hl : lv_has ls 4 [(0, .ref (a 0)), (1, .int (nI j))] := hl
  have lkf7 := hts (.fieldLink RX5 7 "WireLampsModel" "z" "[I") (by decide +kernel)
  have in_X5 : ∀ w ∈ u_ws RX5 TX5 13, w ∈ wsX5_isCut := by decide +kernel
  refine lv_iconst (v := 0) hx hb dX5_isCut_0 (by decide) ?_
  refine lv_istore_n (lv' := [(2, .int 0), (0, .ref (a 0)), (1, .int (nI j))]) hx hb dX5_isCut_1 rfl hl (by decide) rfl (fun ls hl => ?_)
  refine lv_iconst (v := 0) hx hb dX5_isCut_2 (by decide) ?_
  refine lv_istore_n (lv' := [(3, .int 0), (2, .int 0), (0, .ref (a 0)), (1, .int (nI j))]) hx hb dX5_isCut_3 rfl hl (by decide) rfl (fun ls hl => ?_)
  suffices K1 : ∀ (n2 : Nat) (i : Nat) (pc6 : Int32), j - i < n2 → (i ≤ j) → (pc6 = if q_cut (zv u) i = true then 1 else 0) → ∀ (ls : Array Slot), lv_has ls 4 [(3, .int (nI i)), (2, .int pc6), (0, .ref (a 0)), (1, .int (nI j))] → W p l e ({ frames := 0, cells := 0, slots := 0, locals := 0 } : Room) s m ([.ref (a 0), .int (nI j)] : List Value).toArray below meth c s.heap [] 0 0 (MQ below (vp_Si (fun r : Int32 => r = if (q_cut (zv u) j = true) then 1 else 0)) ([.ref (a 0), .int (nI j)] : List Value).toArray s 0 0 (fun _ => False)) (F0 m 4 ls []) from K1 (j + 1) 0 0 (by omega) (by omega) rfl _  (lv_sub hl [0, 1, 2, 3] rfl)
  intro n2
  induction n2 with
  | zero => intro i pc6 hm; exact absurd hm (Nat.not_lt_zero _)
  | succ n2 ih3 =>
    intro i pc6 hm hi hp ls  hl
    refine lv_iload_n hx hb dX5_isCut_4 rfl (lv_at hl 0 rfl) ?_
    refine lv_iload_n hx hb dX5_isCut_5 rfl (lv_at hl 3 rfl) ?_
    refine wl_icmp_ge (tgt := 37) hx hb i j dX5_isCut_6 (by decide) (by omega) (by omega) (fun c4 => ?_) (fun c4 => ?_)
    · have hij : i = j := by omega
      refine lv_iload_n hx hb dX5_isCut_37 rfl (lv_at hl 1 rfl) ?_
      exact wl_rz (r := pc6) (q_cut (zv u) i = true) hx hb hr hlocks hp (by obtain rfl : i = j := (by omega); exact hp) dX5_isCut_38
    · refine lv_iload_n hx hb dX5_isCut_9 rfl (lv_at hl 1 rfl) ?_
      have K8 : ∀ (ls : Array Slot) (v7 : Int32), v7 = (if q_cut (zv u) i = true then 1 else (if (zv u 0 i) = 2 then 1 else 0)) → lv_has ls 4 [(3, .int (nI i)), (0, .ref (a 0)), (1, .int (nI j))] → W p l e ({ frames := 0, cells := 0, slots := 0, locals := 0 } : Room) s m ([.ref (a 0), .int (nI j)] : List Value).toArray below meth c s.heap [] 0 0 (MQ below (vp_Si (fun r : Int32 => r = if (q_cut (zv u) j = true) then 1 else 0)) ([.ref (a 0), .int (nI j)] : List Value).toArray s 0 0 (fun _ => False)) (F0 m 30 ls [.int v7]) := by
        intro ls v7 ev7  hl
        refine lv_istore_n (lv' := [(2, .int v7), (3, .int (nI i)), (0, .ref (a 0)), (1, .int (nI j))]) hx hb dX5_isCut_30 rfl hl (by decide) rfl (fun ls hl => ?_)
        refine lv_iinc (v := nI (i + 1)) (lv' := [(3, .int (nI (i + 1))), (2, .int v7), (0, .ref (a 0)), (1, .int (nI j))]) hx hb dX5_isCut_31 hl (k := 1) rfl (wl_inc i) (by decide) rfl (fun ls hl => ?_)
        refine lv_goto (tgt := 4) hx hb dX5_isCut_34 (by decide) ?_
        subst ev7
        exact ih3 (i + 1) (if q_cut (zv u) i = true then 1 else (if (zv u 0 i) = 2 then 1 else 0)) (by omega) (by omega) (by by_cases h1 : q_cut (zv u) i = true <;> by_cases h2 : zv u 0 i = 2 <;> simp [q_cut, h1, h2]) _  (lv_sub hl [0, 1, 2, 3] rfl)
      refine wl_b_ne (tgt := 25) hx hb (q_cut (zv u) i = true) hp dX5_isCut_10 (by decide) (fun c5 => ?_) (fun c5 => ?_)
      · refine lv_iconst (v := 1) hx hb dX5_isCut_25 (by decide) ?_
        refine lv_goto (tgt := 30) hx hb dX5_isCut_26 (by decide) ?_
        exact K8 _ 1 (by rw [if_pos c5]) (lv_sub hl [0, 2, 3] rfl)
      · refine lv_aload_n hx hb dX5_isCut_13 rfl (lv_at hl 2 rfl) ?_
        refine wl_getf (C := RX5) (T := TX5) (N := 13) (ci := 5) (v := .ref (a 1)) hx hb hts in_X5 hown hK hP 0 0 rfl rfl rfl 0 (by decide) lkf7 rfl rfl dX5_isCut_14 ?_
        refine lv_iconst (v := 0) hx hb dX5_isCut_17 (by decide) ?_
        refine lv_iload_n hx hb dX5_isCut_18 rfl (lv_at hl 0 rfl) ?_
        refine lv_iadd hx hb dX5_isCut_19 ?_
        refine wl_top (y := nI (0 + i)) (nI_add 0 i) ?_
        refine wl_iald hx hb hK hP 0 1 rfl rfl (0 + i) (by omega) (Nat.le_of_ble_eq_true rfl) dX5_isCut_20 ?_
        refine wl_top (y := zv u 0 i) rfl ?_
        refine lv_iconst (v := 2) hx hb dX5_isCut_21 (by decide) ?_
        refine lv_icmp_ne (tgt := 29) hx hb dX5_isCut_22 (by decide) (fun c6 => ?_) (fun c6 => ?_)
        · refine lv_iconst (v := 0) hx hb dX5_isCut_29 (by decide) ?_
          exact K8 _ 0 (by rw [if_neg c5, if_neg c6]) (lv_sub hl [0, 2, 3] rfl)
        · refine lv_iconst (v := 1) hx hb dX5_isCut_25 (by decide) ?_
          refine lv_goto (tgt := 30) hx hb dX5_isCut_26 (by decide) ?_
          exact K8 _ 1 (by rw [if_neg c5, if_pos c6]) (lv_sub hl [0, 2, 3] rfl)
set_option maxHeartbeats 4000000 in
set_option maxRecDepth 100000 in
theorem m_X5_takersAhead (l : Launch) (D : va_G) (cy : Nat → ClassId) (a : Nat → Nat) (u : Nat → Nat → Int32) (j : Nat) (hj : j ≤ 8) : Met l yX5_takersAhead wsX5_takersAhead ({ frames := 1, cells := 0, slots := 0, locals := 21 } : Room) (wl_pc D cy [moW cy a u] [.ref (a 0), .int (nI j)]) (vp_Si (fun r : Int32 => r = nI (q_ta (zv u) j))) 0 0 (fun _ => False) := by
  refine wl_ofP (cc := cX5_takersAhead) (maxL := 4) (ret := (some .int)) (by decide) rfl (Nat.le_of_ble_eq_true rfl) ?_
  intro p e s m below meth c ls hx hb hr hts hown hlocks hml hP hK hl
  have hl : lv_has ls 4 [(0, .ref (a 0)), (1, .int (nI j))] := hl
  refine lv_iconst (v := 0) hx hb dX5_takersAhead_0 (by decide) ?_
  refine lv_istore_n (lv' := [(2, .int 0), (0, .ref (a 0)), (1, .int (nI j))]) hx hb dX5_takersAhead_1 rfl hl (by decide) rfl (fun ls hl => ?_)
  refine lv_iconst (v := 0) hx hb dX5_takersAhead_2 (by decide) ?_
  refine lv_istore_n (lv' := [(3, .int 0), (2, .int 0), (0, .ref (a 0)), (1, .int (nI j))]) hx hb dX5_takersAhead_3 rfl hl (by decide) rfl (fun ls hl => ?_)
  suffices K1 : ∀ (n2 : Nat) (i : Nat), j - i < n2 → (i ≤ j) → ∀ (ls : Array Slot), lv_has ls 4 [(3, .int (nI i)), (2, .int (q_tai (zv u) i)), (0, .ref (a 0)), (1, .int (nI j))] → W p l e ({ frames := 1, cells := 0, slots := 0, locals := 21 } : Room) s m ([.ref (a 0), .int (nI j)] : List Value).toArray below meth c s.heap [] 0 0 (MQ below (vp_Si (fun r : Int32 => r = nI (q_ta (zv u) j))) ([.ref (a 0), .int (nI j)] : List Value).toArray s 0 0 (fun _ => False)) (F0 m 4 ls []) from K1 (j + 1) 0 (by omega) (by omega) _  (lv_sub hl [0, 1, 2, 3] rfl)
  intro n2
  induction n2 with
  | zero => intro i hm; exact absurd hm (Nat.not_lt_zero _)
  | succ n2 ih3 =>
    intro i hm hi ls  hl
    refine lv_iload_n hx hb dX5_takersAhead_4 rfl (lv_at hl 0 rfl) ?_
    refine lv_iload_n hx hb dX5_takersAhead_5 rfl (lv_at hl 3 rfl) ?_
    refine wl_icmp_ge (tgt := 31) hx hb i j dX5_takersAhead_6 (by decide) (by omega) (by omega) (fun c4 => ?_) (fun c4 => ?_)
    · refine lv_iload_n hx hb dX5_takersAhead_31 rfl (lv_at hl 1 rfl) ?_
      exact wl_ri (r := (q_tai (zv u) i)) hx hb hr hlocks (by obtain rfl : i = j := (by omega); exact q_tai_eq _ _) dX5_takersAhead_32
    · refine lv_iload_n hx hb dX5_takersAhead_9 rfl (lv_at hl 1 rfl) ?_
      refine lv_aload_n hx hb dX5_takersAhead_10 rfl (lv_at hl 2 rfl) ?_
      refine lv_iload_n hx hb dX5_takersAhead_11 rfl (lv_at hl 0 rfl) ?_
      refine wl_pV (As := [.int (nI i)]) (rest := [.int (q_tai (zv u) i)]) ⟨hx, hb, hml, hown, hts⟩ (m_X5_isTaker l D cy a u i (by omega)) (cwV 1 hts gX5_takersAhead_X5_isTaker rfl rfl rfl (by decide +kernel) ⟨Nat.le_of_ble_eq_true rfl, Nat.le_of_ble_eq_true rfl⟩) hK hP [0] rfl rfl rfl rfl rfl rfl hl.1 rfl (Nat.le_of_ble_eq_true rfl) dX5_takersAhead_12 ⟨Nat.le_of_ble_eq_true rfl, Nat.le_of_ble_eq_true rfl⟩ (fun r5 er5 => ?_)
      have er5 : r5 = if (zv u 0 i = 0 ∨ zv u 0 i = 1) then 1 else 0 := er5
      have K8 : ∀ (ls : Array Slot) (v7 : Int32), v7 = (if (zv u 0 i = 0 ∨ zv u 0 i = 1) then 1 else 0) → lv_has ls 4 [(3, .int (nI i)), (0, .ref (a 0)), (1, .int (nI j))] → W p l e ({ frames := 1, cells := 0, slots := 0, locals := 21 } : Room) s m ([.ref (a 0), .int (nI j)] : List Value).toArray below meth c s.heap [] 0 0 (MQ below (vp_Si (fun r : Int32 => r = nI (q_ta (zv u) j))) ([.ref (a 0), .int (nI j)] : List Value).toArray s 0 0 (fun _ => False)) (F0 m 23 ls [.int v7, .int (q_tai (zv u) i)]) := by
        intro ls v7 ev7  hl
        refine lv_iadd hx hb dX5_takersAhead_23 ?_
        refine lv_istore_n (lv' := [(2, .int ((q_tai (zv u) i) + v7)), (3, .int (nI i)), (0, .ref (a 0)), (1, .int (nI j))]) hx hb dX5_takersAhead_24 rfl hl (by decide) rfl (fun ls hl => ?_)
        refine lv_iinc (v := nI (i + 1)) (lv' := [(3, .int (nI (i + 1))), (2, .int ((q_tai (zv u) i) + v7)), (0, .ref (a 0)), (1, .int (nI j))]) hx hb dX5_takersAhead_25 hl (k := 1) rfl (wl_inc i) (by decide) rfl (fun ls hl => ?_)
        refine lv_goto (tgt := 4) hx hb dX5_takersAhead_28 (by decide) ?_
        subst ev7
        exact ih3 (i + 1) (by omega) (by omega) _  (lv_sub hl [0, 1, 2, 3] rfl)
      refine wl_b_eq (tgt := 22) hx hb (zv u 0 i = 0 ∨ zv u 0 i = 1) er5 dX5_takersAhead_15 (by decide) (fun c6 => ?_) (fun c6 => ?_)
      · refine lv_iconst (v := 0) hx hb dX5_takersAhead_22 (by decide) ?_
        exact K8 _ 0 (by rw [if_neg c6]) (lv_sub hl [0, 2, 3] rfl)
      · refine lv_iconst (v := 1) hx hb dX5_takersAhead_18 (by decide) ?_
        refine lv_goto (tgt := 23) hx hb dX5_takersAhead_19 (by decide) ?_
        exact K8 _ 1 (by rw [if_pos c6]) (lv_sub hl [0, 2, 3] rfl)
set_option maxHeartbeats 4000000 in
set_option maxRecDepth 100000 in
theorem m_X5_pulses (l : Launch) (D : va_G) (cy : Nat → ClassId) (a : Nat → Nat) (u : Nat → Nat → Int32) (n : Nat) (hQ : q_pl u n) : Met l yX5_pulses wsX5_pulses ({ frames := 0, cells := 0, slots := 0, locals := 0 } : Room) (wl_pc D cy [moW cy a u] [.ref (a 0)]) (vp_Si (fun r : Int32 => r = nI n)) 0 0 (fun _ => False) := by
  refine wl_ofP (cc := cX5_pulses) (maxL := 1) (ret := (some .int)) (by decide) rfl (Nat.le_of_ble_eq_true rfl) ?_
  intro p e s m below meth c ls hx hb hr hts hown hlocks hml hP hK hl
  have hl : lv_has ls 1 [(0, .ref (a 0))] := hl
  have lkf26 := hts (.fieldLink RX5 26 "WireLampsModel" "trial" "I") (by decide +kernel)
  have lkf7 := hts (.fieldLink RX5 7 "WireLampsModel" "z" "[I") (by decide +kernel)
  have in_X5 : ∀ w ∈ u_ws RX5 TX5 13, w ∈ wsX5_pulses := by decide +kernel
  refine lv_aload_n hx hb dX5_pulses_0 rfl (lv_at hl 0 rfl) ?_
  refine wl_getf (C := RX5) (T := TX5) (N := 13) (ci := 5) (v := .int (u 6 3)) hx hb hts in_X5 hown hK hP 0 0 rfl rfl rfl 8 (by decide) lkf26 rfl rfl dX5_pulses_1 ?_
  refine lv_iconst (v := (-1)) hx hb dX5_pulses_4 (by decide) ?_
  refine lv_icmp_ne (tgt := 18) hx hb dX5_pulses_5 (by decide) (fun ht => ?_) (fun ht => ?_)
  · refine lv_bipush (v := 96) hx hb dX5_pulses_18 (by decide) ?_
    exact wl_ri (r := 96) hx hb hr hlocks (by rcases hQ with hQ | hQ; exact absurd hQ.1 ht; rw [hQ.2]; rfl) dX5_pulses_20
  · refine lv_aload_n hx hb dX5_pulses_8 rfl (lv_at hl 0 rfl) ?_
    refine wl_getf (C := RX5) (T := TX5) (N := 13) (ci := 5) (v := .ref (a 1)) hx hb hts in_X5 hown hK hP 0 0 rfl rfl rfl 0 (by decide) lkf7 rfl rfl dX5_pulses_9 ?_
    refine lv_bipush (v := 49) hx hb dX5_pulses_12 (by decide) ?_
    refine wl_iald hx hb hK hP 0 1 rfl rfl 49 (by omega) (Nat.le_of_ble_eq_true rfl) dX5_pulses_14 ?_
    refine wl_top (y := zv u 7 0) rfl ?_
    refine lv_goto (tgt := 20) hx hb dX5_pulses_15 (by decide) ?_
    exact wl_ri (r := (zv u 7 0)) hx hb hr hlocks (by rcases hQ with hQ | hQ; exact hQ.2; exact absurd ht hQ.1) dX5_pulses_20
set_option maxHeartbeats 4000000 in
set_option maxRecDepth 100000 in
theorem m_X5_pulseOf (l : Launch) (D : va_G) (cy : Nat → ClassId) (x : Int32) (d : Nat)  : Met l yX5_pulseOf wsX5_pulseOf ({ frames := 0, cells := 0, slots := 0, locals := 0 } : Room) (wl_pc D cy [] [.int x, .int (nI d)]) (vp_Si (fun r : Int32 => r = q_bit x d)) 0 0 (fun _ => False) := by
  refine wl_ofP (cc := cX5_pulseOf) (maxL := 2) (ret := (some .int)) (by decide) rfl (Nat.le_of_ble_eq_true rfl) ?_
  intro p e s m below meth c ls hx hb hr hts hown hlocks hml hP hK hl
  have hl : lv_has ls 2 [(0, .int x), (1, .int (nI d))] := hl
  refine lv_iload_n hx hb dX5_pulseOf_0 rfl (lv_at hl 0 rfl) ?_
  refine lv_bipush (v := 11) hx hb dX5_pulseOf_1 (by decide) ?_
  refine lv_iload_n hx hb dX5_pulseOf_3 rfl (lv_at hl 1 rfl) ?_
  refine lv_isub hx hb dX5_pulseOf_4 ?_
  refine lv_ishr hx hb dX5_pulseOf_5 ?_
  refine lv_iconst (v := 1) hx hb dX5_pulseOf_6 (by decide) ?_
  refine lv_iand hx hb dX5_pulseOf_7 ?_
  refine lv_iconst (v := 1) hx hb dX5_pulseOf_8 (by decide) ?_
  refine lv_icmp_ne (tgt := 17) hx hb dX5_pulseOf_9 (by decide) (fun c1 => ?_) (fun c1 => ?_)
  · refine lv_iconst (v := 4) hx hb dX5_pulseOf_17 (by decide) ?_
    exact wl_ri (r := 4) hx hb hr hlocks (by unfold q_bit; rw [if_neg c1]) dX5_pulseOf_18
  · refine lv_bipush (v := 8) hx hb dX5_pulseOf_12 (by decide) ?_
    refine lv_goto (tgt := 18) hx hb dX5_pulseOf_14 (by decide) ?_
    exact wl_ri (r := 8) hx hb hr hlocks (by unfold q_bit; rw [if_pos c1]) dX5_pulseOf_18
set_option maxHeartbeats 4000000 in
set_option maxRecDepth 100000 in
theorem m_X5_lengthOf (l : Launch) (D : va_G) (cy : Nat → ClassId) (a : Nat → Nat) (u : Nat → Nat → Int32) (i : Nat) (hi : i < 120) : Met l yX5_lengthOf wsX5_lengthOf ({ frames := 1, cells := 0, slots := 0, locals := 21 } : Room) (wl_pc D cy [moW cy a u] [.ref (a 0), .int (nI i)]) (vp_Si (fun r : Int32 => r = q_le u i)) 0 0 (fun _ => False) := by
  refine wl_ofP (cc := cX5_lengthOf) (maxL := 2) (ret := (some .int)) (by decide) rfl (Nat.le_of_ble_eq_true rfl) ?_
  intro p e s m below meth c ls hx hb hr hts hown hlocks hml hP hK hl
  have hl : lv_has ls 2 [(0, .ref (a 0)), (1, .int (nI i))] := hl
  have lkf26 := hts (.fieldLink RX5 26 "WireLampsModel" "trial" "I") (by decide +kernel)
  have lkf7 := hts (.fieldLink RX5 7 "WireLampsModel" "z" "[I") (by decide +kernel)
  have in_X5 : ∀ w ∈ u_ws RX5 TX5 13, w ∈ wsX5_lengthOf := by decide +kernel
  refine lv_aload_n hx hb dX5_lengthOf_0 rfl (lv_at hl 0 rfl) ?_
  refine wl_getf (C := RX5) (T := TX5) (N := 13) (ci := 5) (v := .int (u 6 3)) hx hb hts in_X5 hown hK hP 0 0 rfl rfl rfl 8 (by decide) lkf26 rfl rfl dX5_lengthOf_1 ?_
  refine lv_iconst (v := (-1)) hx hb dX5_lengthOf_4 (by decide) ?_
  refine lv_icmp_ne (tgt := 20) hx hb dX5_lengthOf_5 (by decide) (fun c1 => ?_) (fun c1 => ?_)
  · refine lv_aload_n hx hb dX5_lengthOf_20 rfl (lv_at hl 0 rfl) ?_
    refine wl_getf (C := RX5) (T := TX5) (N := 13) (ci := 5) (v := .int (u 6 3)) hx hb hts in_X5 hown hK hP 0 0 rfl rfl rfl 8 (by decide) lkf26 rfl rfl dX5_lengthOf_21 ?_
    refine lv_iload_n hx hb dX5_lengthOf_24 rfl (lv_at hl 1 rfl) ?_
    refine lv_bipush (v := 12) hx hb dX5_lengthOf_25 (by decide) ?_
    refine lv_irem hx hb dX5_lengthOf_27 (by decide) ?_
    refine wl_top (y := nI (i % 12)) (pk_rem (a := i) (d := 12) (by omega) (by omega) (by omega)) ?_
    refine wl_pS (As := [.int (u 6 3), .int (nI (i % 12))]) (rest := []) ⟨hx, hb, hml, hown, hts⟩ (m_X5_pulseOf l D cy (u 6 3) (i % 12) ) (va_cwS 2 hts gX5_lengthOf_X5_pulseOf rfl rfl rfl (by decide +kernel) ⟨Nat.le_of_ble_eq_true rfl, Nat.le_of_ble_eq_true rfl⟩) hK hP [] rfl rfl hl.1 rfl (Nat.le_of_ble_eq_true rfl) dX5_lengthOf_28 ⟨Nat.le_of_ble_eq_true rfl, Nat.le_of_ble_eq_true rfl⟩ (fun r2 er2 => ?_)
    have er2 : r2 = q_bit (u 6 3) (i % 12) := er2
    subst er2
    exact wl_ri (r := (q_bit (u 6 3) (i % 12))) hx hb hr hlocks (by unfold q_le; rw [if_neg c1]) dX5_lengthOf_31
  · refine lv_aload_n hx hb dX5_lengthOf_8 rfl (lv_at hl 0 rfl) ?_
    refine wl_getf (C := RX5) (T := TX5) (N := 13) (ci := 5) (v := .ref (a 1)) hx hb hts in_X5 hown hK hP 0 0 rfl rfl rfl 0 (by decide) lkf7 rfl rfl dX5_lengthOf_9 ?_
    refine lv_bipush (v := 50) hx hb dX5_lengthOf_12 (by decide) ?_
    refine lv_iload_n hx hb dX5_lengthOf_14 rfl (lv_at hl 1 rfl) ?_
    refine lv_iadd hx hb dX5_lengthOf_15 ?_
    refine wl_top (y := nI (50 + i)) (nI_add 50 i) ?_
    refine wl_iald hx hb hK hP 0 1 rfl rfl (50 + i) (by omega) (Nat.le_of_ble_eq_true rfl) dX5_lengthOf_16 ?_
    refine wl_top (y := zv u 6 i) rfl ?_
    refine lv_goto (tgt := 31) hx hb dX5_lengthOf_17 (by decide) ?_
    exact wl_ri (r := (zv u 6 i)) hx hb hr hlocks (by unfold q_le; rw [if_pos c1]) dX5_lengthOf_31
set_option maxHeartbeats 4000000 in
set_option maxRecDepth 100000 in
theorem m_X5_comes (l : Launch) (D : va_G) (cy : Nat → ClassId) (a : Nat → Nat) (u : Nat → Nat → Int32) (j n : Nat) (hj : j < 8) (hQ : q_pl u n) (hn2 : n ≤ 120) : Met l yX5_comes wsX5_comes ({ frames := 2, cells := 0, slots := 0, locals := 44 } : Room) (wl_pc D cy [moW cy a u] [.ref (a 0), .int (nI j)]) (vp_Si (fun r : Int32 => r = nI (q_cm u n j))) 0 0 (fun _ => False) := by
  refine wl_ofP (cc := cX5_comes) (maxL := 3) (ret := (some .int)) (by decide) rfl (Nat.le_of_ble_eq_true rfl) ?_
  intro p e s m below meth c ls hx hb hr hts hown hlocks hml hP hK hl
  have hl : lv_has ls 3 [(0, .ref (a 0)), (1, .int (nI j))] := hl
  refine lv_aload_n hx hb dX5_comes_0 rfl (lv_at hl 0 rfl) ?_
  refine wl_pV (As := []) (rest := []) ⟨hx, hb, hml, hown, hts⟩ (m_X5_pulses l D cy a u n hQ) (cwV 0 hts gX5_comes_X5_pulses rfl rfl rfl (by decide +kernel) ⟨Nat.le_of_ble_eq_true rfl, Nat.le_of_ble_eq_true rfl⟩) hK hP [0] rfl rfl rfl rfl rfl rfl hl.1 rfl (Nat.le_of_ble_eq_true rfl) dX5_comes_1 ⟨Nat.le_of_ble_eq_true rfl, Nat.le_of_ble_eq_true rfl⟩ (fun r1 er1 => ?_)
  have er1 : r1 = nI n := er1
  subst er1
  refine lv_bipush (v := 12) hx hb dX5_comes_4 (by decide) ?_
  refine lv_aload_n hx hb dX5_comes_6 rfl (lv_at hl 0 rfl) ?_
  refine lv_iload_n hx hb dX5_comes_7 rfl (lv_at hl 1 rfl) ?_
  refine wl_pV (As := [.int (nI j)]) (rest := [.int 12, .int (nI n)]) ⟨hx, hb, hml, hown, hts⟩ (m_X5_takersAhead l D cy a u j (by omega)) (cwV 1 hts gX5_comes_X5_takersAhead rfl rfl rfl (by decide +kernel) ⟨Nat.le_of_ble_eq_true rfl, Nat.le_of_ble_eq_true rfl⟩) hK hP [0] rfl rfl rfl rfl rfl rfl hl.1 rfl (Nat.le_of_ble_eq_true rfl) dX5_comes_8 ⟨Nat.le_of_ble_eq_true rfl, Nat.le_of_ble_eq_true rfl⟩ (fun r2 er2 => ?_)
  have er2 : r2 = nI (q_ta (zv u) j) := er2
  subst er2
  refine lv_imul hx hb dX5_comes_11 ?_
  refine wl_top (y := nI (12 * (q_ta (zv u) j))) (pk_mul 12 (q_ta (zv u) j)) ?_
  refine lv_isub hx hb dX5_comes_12 ?_
  refine lv_istore_n (lv' := [(2, .int ((nI n) - (nI (12 * (q_ta (zv u) j))))), (0, .ref (a 0)), (1, .int (nI j))]) hx hb dX5_comes_13 rfl hl (by decide) rfl (fun ls hl => ?_)
  have hta := q_ta_le (zv u) j
  refine lv_aload_n hx hb dX5_comes_14 rfl (lv_at hl 1 rfl) ?_
  refine lv_iload_n hx hb dX5_comes_15 rfl (lv_at hl 2 rfl) ?_
  refine wl_pV (As := [.int (nI j)]) (rest := []) ⟨hx, hb, hml, hown, hts⟩ (m_X5_isCut l D cy a u j (by omega)) (cwV 1 hts gX5_comes_X5_isCut rfl rfl rfl (by decide +kernel) ⟨Nat.le_of_ble_eq_true rfl, Nat.le_of_ble_eq_true rfl⟩) hK hP [0] rfl rfl rfl rfl rfl rfl hl.1 rfl (Nat.le_of_ble_eq_true rfl) dX5_comes_16 ⟨Nat.le_of_ble_eq_true rfl, Nat.le_of_ble_eq_true rfl⟩ (fun r3 er3 => ?_)
  have er3 : r3 = if (q_cut (zv u) j = true) then 1 else 0 := er3
  refine wl_b_ne (tgt := 26) hx hb (q_cut (zv u) j = true) er3 dX5_comes_19 (by decide) (fun hc => ?_) (fun hc => ?_)
  · refine lv_iconst (v := 0) hx hb dX5_comes_26 (by decide) ?_
    refine lv_goto (tgt := 31) hx hb dX5_comes_27 (by decide) ?_
    exact wl_ri (r := 0) hx hb hr hlocks (by rw [q_cm, if_pos hc]; rfl) dX5_comes_31
  · refine lv_iload_n hx hb dX5_comes_22 rfl (lv_at hl 0 rfl) ?_
    refine lv_if_ge (tgt := 30) hx hb dX5_comes_23 (by decide) (fun hge => ?_) (fun hge => ?_)
    · refine lv_iload_n hx hb dX5_comes_30 rfl (lv_at hl 0 rfl) ?_
      exact wl_ri (r := ((nI n) - (nI (12 * (q_ta (zv u) j))))) hx hb hr hlocks (by have h9 := (q_cm0 n hn2 (q_ta (zv u) j) (by omega)).mp hge; rw [q_cm, if_neg hc, pk_sub (by omega)]) dX5_comes_31
    · refine lv_iconst (v := 0) hx hb dX5_comes_26 (by decide) ?_
      refine lv_goto (tgt := 31) hx hb dX5_comes_27 (by decide) ?_
      exact wl_ri (r := 0) hx hb hr hlocks (by have h9 : ¬ 12 * q_ta (zv u) j ≤ n := fun q => hge ((q_cm0 n hn2 (q_ta (zv u) j) (by omega)).mpr q); rw [q_cm, if_neg hc, show n - 12 * q_ta (zv u) j = 0 by omega]; rfl) dX5_comes_31
set_option maxHeartbeats 4000000 in
set_option maxRecDepth 100000 in
theorem m_X5_arrives (l : Launch) (D : va_G) (cy : Nat → ClassId) (a : Nat → Nat) (u : Nat → Nat → Int32) (j i : Nat) (hj : j < 8) (hi : i < 120) : Met l yX5_arrives wsX5_arrives ({ frames := 2, cells := 0, slots := 0, locals := 42 } : Room) (wl_pc D cy [moW cy a u] [.ref (a 0), .int (nI j), .int (nI i)]) (vp_Si (fun r : Int32 => r = q_ar (zv u) j (q_le u i))) 0 0 (fun _ => False) := by
  refine wl_ofP (cc := cX5_arrives) (maxL := 5) (ret := (some .int)) (by decide) rfl (Nat.le_of_ble_eq_true rfl) ?_
  intro p e s m below meth c ls hx hb hr hts hown hlocks hml hP hK hl
  have hl : lv_has ls 5 [(0, .ref (a 0)), (1, .int (nI j)), (2, .int (nI i))] := hl
  have lkf7 := hts (.fieldLink RX5 7 "WireLampsModel" "z" "[I") (by decide +kernel)
  have in_X5 : ∀ w ∈ u_ws RX5 TX5 13, w ∈ wsX5_arrives := by decide +kernel
  refine lv_aload_n hx hb dX5_arrives_0 rfl (lv_at hl 0 rfl) ?_
  refine lv_iload_n hx hb dX5_arrives_1 rfl (lv_at hl 2 rfl) ?_
  refine wl_pV (As := [.int (nI i)]) (rest := []) ⟨hx, hb, hml, hown, hts⟩ (m_X5_lengthOf l D cy a u i (by omega)) (cwV 1 hts gX5_arrives_X5_lengthOf rfl rfl rfl (by decide +kernel) ⟨Nat.le_of_ble_eq_true rfl, Nat.le_of_ble_eq_true rfl⟩) hK hP [0] rfl rfl rfl rfl rfl rfl hl.1 rfl (Nat.le_of_ble_eq_true rfl) dX5_arrives_2 ⟨Nat.le_of_ble_eq_true rfl, Nat.le_of_ble_eq_true rfl⟩ (fun r1 er1 => ?_)
  have er1 : r1 = q_le u i := er1
  subst er1
  refine lv_istore_n (lv' := [(3, .int (q_le u i)), (0, .ref (a 0)), (1, .int (nI j)), (2, .int (nI i))]) hx hb dX5_arrives_5 rfl hl (by decide) rfl (fun ls hl => ?_)
  refine lv_iconst (v := 0) hx hb dX5_arrives_6 (by decide) ?_
  refine lv_istore (lv' := [(4, .int 0), (3, .int (q_le u i)), (0, .ref (a 0)), (1, .int (nI j)), (2, .int (nI i))]) hx hb dX5_arrives_7 hl (by decide) rfl (fun ls hl => ?_)
  suffices K2 : ∀ (n3 : Nat) (k : Nat) (X : Int32), j + 1 - k < n3 → (k ≤ j + 1) → (X = q_am (zv u) (q_le u i) j k) → ∀ (ls : Array Slot), lv_has ls 5 [(4, .int (nI k)), (3, .int X), (0, .ref (a 0)), (1, .int (nI j))] → W p l e ({ frames := 2, cells := 0, slots := 0, locals := 42 } : Room) s m ([.ref (a 0), .int (nI j), .int (nI i)] : List Value).toArray below meth c s.heap [] 0 0 (MQ below (vp_Si (fun r : Int32 => r = q_ar (zv u) j (q_le u i))) ([.ref (a 0), .int (nI j), .int (nI i)] : List Value).toArray s 0 0 (fun _ => False)) (F0 m 9 ls []) from K2 (j + 2) 0 (q_le u i) (by omega) (by omega) rfl _  (lv_sub hl [0, 1, 2, 3] rfl)
  intro n3
  induction n3 with
  | zero => intro k X hm; exact absurd hm (Nat.not_lt_zero _)
  | succ n3 ih4 =>
    intro k X hm hk hX ls  hl
    refine lv_iload hx hb dX5_arrives_9 (lv_at hl 0 rfl) ?_
    refine lv_iload_n hx hb dX5_arrives_11 rfl (lv_at hl 3 rfl) ?_
    refine wl_icmp_gt (tgt := 98) hx hb k j dX5_arrives_12 (by decide) (by omega) (by omega) (fun c5 => ?_) (fun c5 => ?_)
    · refine lv_iload_n hx hb dX5_arrives_98 rfl (lv_at hl 1 rfl) ?_
      exact wl_ri (r := X) hx hb hr hlocks (by obtain rfl : k = j + 1 := (by omega); rw [hX]; exact if_neg (by omega)) dX5_arrives_99
    · refine lv_iload_n hx hb dX5_arrives_15 rfl (lv_at hl 1 rfl) ?_
      refine lv_aload_n hx hb dX5_arrives_16 rfl (lv_at hl 2 rfl) ?_
      refine wl_getf (C := RX5) (T := TX5) (N := 13) (ci := 5) (v := .ref (a 1)) hx hb hts in_X5 hown hK hP 0 0 rfl rfl rfl 0 (by decide) lkf7 rfl rfl dX5_arrives_17 ?_
      refine lv_bipush (v := 8) hx hb dX5_arrives_20 (by decide) ?_
      refine lv_iload hx hb dX5_arrives_22 (lv_at hl 0 rfl) ?_
      refine lv_iadd hx hb dX5_arrives_24 ?_
      refine wl_top (y := nI (8 + k)) (nI_add 8 k) ?_
      refine wl_iald hx hb hK hP 0 1 rfl rfl (8 + k) (by omega) (Nat.le_of_ble_eq_true rfl) dX5_arrives_25 ?_
      refine wl_top (y := zv u 1 k) rfl ?_
      refine lv_isub hx hb dX5_arrives_26 ?_
      refine lv_iconst (v := 1) hx hb dX5_arrives_27 (by decide) ?_
      have K8 : ∀ (ls : Array Slot) (v7 : Int32), v7 = (if 1 ≤ (X - (zv u 1 k)) then (X - (zv u 1 k)) else 1) → lv_has ls 5 [(4, .int (nI k)), (0, .ref (a 0)), (1, .int (nI j))] → W p l e ({ frames := 2, cells := 0, slots := 0, locals := 42 } : Room) s m ([.ref (a 0), .int (nI j), .int (nI i)] : List Value).toArray below meth c s.heap [] 0 0 (MQ below (vp_Si (fun r : Int32 => r = q_ar (zv u) j (q_le u i))) ([.ref (a 0), .int (nI j), .int (nI i)] : List Value).toArray s 0 0 (fun _ => False)) (F0 m 47 ls [.int v7]) := by
        intro ls v7 ev7  hl
        refine lv_istore_n (lv' := [(3, .int v7), (4, .int (nI k)), (0, .ref (a 0)), (1, .int (nI j))]) hx hb dX5_arrives_47 rfl hl (by decide) rfl (fun ls hl => ?_)
        refine lv_iload hx hb dX5_arrives_48 (lv_at hl 1 rfl) ?_
        refine lv_iload_n hx hb dX5_arrives_50 rfl (lv_at hl 3 rfl) ?_
        have K17 : ∀ (ls : Array Slot) (v16 : Int32), v16 = (if j ≤ k then v7 else (if (zv u 0 k = 0 ∨ zv u 0 k = 1) then (if (zv u 5 1) = 1 then (if v7 < (zv u 5 0) then 4 else 8) else v7) else v7)) → lv_has ls 5 [(3, .int v16), (4, .int (nI k)), (0, .ref (a 0)), (1, .int (nI j))] → W p l e ({ frames := 2, cells := 0, slots := 0, locals := 42 } : Room) s m ([.ref (a 0), .int (nI j), .int (nI i)] : List Value).toArray below meth c s.heap [] 0 0 (MQ below (vp_Si (fun r : Int32 => r = q_ar (zv u) j (q_le u i))) ([.ref (a 0), .int (nI j), .int (nI i)] : List Value).toArray s 0 0 (fun _ => False)) (F0 m 92 ls []) := by
          intro ls v16 ev16  hl
          refine lv_iinc (v := nI (k + 1)) (lv' := [(4, .int (nI (k + 1))), (3, .int v16), (0, .ref (a 0)), (1, .int (nI j))]) hx hb dX5_arrives_92 hl (k := 1) rfl (wl_inc k) (by decide) rfl (fun ls hl => ?_)
          refine lv_goto (tgt := 9) hx hb dX5_arrives_95 (by decide) ?_
          subst ev7 ev16
          exact ih4 (k + 1) (if j ≤ k then (if 1 ≤ (X - (zv u 1 k)) then (X - (zv u 1 k)) else 1) else (if (zv u 0 k = 0 ∨ zv u 0 k = 1) then (if (zv u 5 1) = 1 then (if (if 1 ≤ (X - (zv u 1 k)) then (X - (zv u 1 k)) else 1) < (zv u 5 0) then 4 else 8) else (if 1 ≤ (X - (zv u 1 k)) then (X - (zv u 1 k)) else 1)) else (if 1 ≤ (X - (zv u 1 k)) then (X - (zv u 1 k)) else 1))) (by omega) (by omega) (by subst hX; exact (q_am_step (j := j) (by omega)).symm) _  (lv_sub hl [0, 1, 2, 3] rfl)
        refine wl_icmp_ge (tgt := 92) hx hb k j dX5_arrives_51 (by decide) (by omega) (by omega) (fun c9 => ?_) (fun c9 => ?_)
        · exact K17 _ v7 (by rw [if_pos c9]) (lv_sub hl [0, 1, 2, 3] rfl)
        · refine lv_aload_n hx hb dX5_arrives_54 rfl (lv_at hl 2 rfl) ?_
          refine lv_iload hx hb dX5_arrives_55 (lv_at hl 1 rfl) ?_
          refine wl_pV (As := [.int (nI k)]) (rest := []) ⟨hx, hb, hml, hown, hts⟩ (m_X5_isTaker l D cy a u k (by omega)) (cwV 1 hts gX5_arrives_X5_isTaker rfl rfl rfl (by decide +kernel) ⟨Nat.le_of_ble_eq_true rfl, Nat.le_of_ble_eq_true rfl⟩) hK hP [0] rfl rfl rfl rfl rfl rfl hl.1 rfl (Nat.le_of_ble_eq_true rfl) dX5_arrives_57 ⟨Nat.le_of_ble_eq_true rfl, Nat.le_of_ble_eq_true rfl⟩ (fun r10 er10 => ?_)
          have er10 : r10 = if (zv u 0 k = 0 ∨ zv u 0 k = 1) then 1 else 0 := er10
          refine wl_b_eq (tgt := 92) hx hb (zv u 0 k = 0 ∨ zv u 0 k = 1) er10 dX5_arrives_60 (by decide) (fun c11 => ?_) (fun c11 => ?_)
          · exact K17 _ v7 (by rw [if_neg c9, if_neg c11]) (lv_sub hl [0, 1, 2, 3] rfl)
          · refine lv_aload_n hx hb dX5_arrives_63 rfl (lv_at hl 2 rfl) ?_
            refine wl_getf (C := RX5) (T := TX5) (N := 13) (ci := 5) (v := .ref (a 1)) hx hb hts in_X5 hown hK hP 0 0 rfl rfl rfl 0 (by decide) lkf7 rfl rfl dX5_arrives_64 ?_
            refine lv_bipush (v := 41) hx hb dX5_arrives_67 (by decide) ?_
            refine wl_iald hx hb hK hP 0 1 rfl rfl 41 (by omega) (Nat.le_of_ble_eq_true rfl) dX5_arrives_69 ?_
            refine wl_top (y := zv u 5 1) rfl ?_
            refine lv_iconst (v := 1) hx hb dX5_arrives_70 (by decide) ?_
            refine lv_icmp_ne (tgt := 92) hx hb dX5_arrives_71 (by decide) (fun c12 => ?_) (fun c12 => ?_)
            · exact K17 _ v7 (by rw [if_neg c9, if_pos c11, if_neg c12]) (lv_sub hl [0, 1, 2, 3] rfl)
            · refine lv_iload_n hx hb dX5_arrives_74 rfl (lv_at hl 0 rfl) ?_
              refine lv_aload_n hx hb dX5_arrives_75 rfl (lv_at hl 2 rfl) ?_
              refine wl_getf (C := RX5) (T := TX5) (N := 13) (ci := 5) (v := .ref (a 1)) hx hb hts in_X5 hown hK hP 0 0 rfl rfl rfl 0 (by decide) lkf7 rfl rfl dX5_arrives_76 ?_
              refine lv_bipush (v := 40) hx hb dX5_arrives_79 (by decide) ?_
              refine wl_iald hx hb hK hP 0 1 rfl rfl 40 (by omega) (Nat.le_of_ble_eq_true rfl) dX5_arrives_81 ?_
              refine wl_top (y := zv u 5 0) rfl ?_
              have K15 : ∀ (ls : Array Slot) (v14 : Int32), v14 = (if v7 < (zv u 5 0) then 4 else 8) → lv_has ls 5 [(4, .int (nI k)), (0, .ref (a 0)), (1, .int (nI j))] → W p l e ({ frames := 2, cells := 0, slots := 0, locals := 42 } : Room) s m ([.ref (a 0), .int (nI j), .int (nI i)] : List Value).toArray below meth c s.heap [] 0 0 (MQ below (vp_Si (fun r : Int32 => r = q_ar (zv u) j (q_le u i))) ([.ref (a 0), .int (nI j), .int (nI i)] : List Value).toArray s 0 0 (fun _ => False)) (F0 m 91 ls [.int v14]) := by
                intro ls v14 ev14  hl
                refine lv_istore_n (lv' := [(3, .int v14), (4, .int (nI k)), (0, .ref (a 0)), (1, .int (nI j))]) hx hb dX5_arrives_91 rfl hl (by decide) rfl (fun ls hl => ?_)
                subst ev14
                exact K17 _ (if v7 < (zv u 5 0) then 4 else 8) (by rw [if_neg c9, if_pos c11, if_pos c12]) (lv_sub hl [0, 1, 2, 3] rfl)
              refine lv_icmp_lt (tgt := 90) hx hb dX5_arrives_82 (by decide) (fun c13 => ?_) (fun c13 => ?_)
              · refine lv_iconst (v := 4) hx hb dX5_arrives_90 (by decide) ?_
                exact K15 _ 4 (by rw [if_pos c13]) (lv_sub hl [1, 2, 3] rfl)
              · refine lv_bipush (v := 8) hx hb dX5_arrives_85 (by decide) ?_
                refine lv_goto (tgt := 91) hx hb dX5_arrives_87 (by decide) ?_
                exact K15 _ 8 (by rw [if_neg c13]) (lv_sub hl [1, 2, 3] rfl)
      refine lv_icmp_ge (tgt := 35) hx hb dX5_arrives_28 (by decide) (fun c6 => ?_) (fun c6 => ?_)
      · refine lv_iload_n hx hb dX5_arrives_35 rfl (lv_at hl 1 rfl) ?_
        refine lv_aload_n hx hb dX5_arrives_36 rfl (lv_at hl 2 rfl) ?_
        refine wl_getf (C := RX5) (T := TX5) (N := 13) (ci := 5) (v := .ref (a 1)) hx hb hts in_X5 hown hK hP 0 0 rfl rfl rfl 0 (by decide) lkf7 rfl rfl dX5_arrives_37 ?_
        refine lv_bipush (v := 8) hx hb dX5_arrives_40 (by decide) ?_
        refine lv_iload hx hb dX5_arrives_42 (lv_at hl 0 rfl) ?_
        refine lv_iadd hx hb dX5_arrives_44 ?_
        refine wl_top (y := nI (8 + k)) (nI_add 8 k) ?_
        refine wl_iald hx hb hK hP 0 1 rfl rfl (8 + k) (by omega) (Nat.le_of_ble_eq_true rfl) dX5_arrives_45 ?_
        refine wl_top (y := zv u 1 k) rfl ?_
        refine lv_isub hx hb dX5_arrives_46 ?_
        exact K8 _ (X - (zv u 1 k)) (by rw [if_pos c6]) (lv_sub hl [0, 2, 3] rfl)
      · refine lv_iconst (v := 1) hx hb dX5_arrives_31 (by decide) ?_
        refine lv_goto (tgt := 47) hx hb dX5_arrives_32 (by decide) ?_
        exact K8 _ 1 (by rw [if_neg c6]) (lv_sub hl [0, 2, 3] rfl)
set_option maxHeartbeats 4000000 in
set_option maxRecDepth 100000 in
theorem m_X5_takes (l : Launch) (D : va_G) (cy : Nat → ClassId) (a : Nat → Nat) (u : Nat → Nat → Int32) (j n : Nat) (hj : j < 8) (hQ : q_pl u n) (hn2 : n ≤ 120) : Met l yX5_takes wsX5_takes ({ frames := 3, cells := 0, slots := 0, locals := 66 } : Room) (wl_pc D cy [moW cy a u] [.ref (a 0), .int (nI j)]) (vp_Si (fun r : Int32 => r = if (q_tk1 u n j) then 1 else 0)) 0 0 (fun _ => False) := by
  refine wl_ofP (cc := cX5_takes) (maxL := 2) (ret := (some .boolean)) (by decide) rfl (Nat.le_of_ble_eq_true rfl) ?_
  intro p e s m below meth c ls hx hb hr hts hown hlocks hml hP hK hl
  have hl : lv_has ls 2 [(0, .ref (a 0)), (1, .int (nI j))] := hl
  refine lv_aload_n hx hb dX5_takes_0 rfl (lv_at hl 0 rfl) ?_
  refine lv_iload_n hx hb dX5_takes_1 rfl (lv_at hl 1 rfl) ?_
  refine wl_pV (As := [.int (nI j)]) (rest := []) ⟨hx, hb, hml, hown, hts⟩ (m_X5_isTaker l D cy a u j (by omega)) (cwV 1 hts gX5_takes_X5_isTaker rfl rfl rfl (by decide +kernel) ⟨Nat.le_of_ble_eq_true rfl, Nat.le_of_ble_eq_true rfl⟩) hK hP [0] rfl rfl rfl rfl rfl rfl hl.1 rfl (Nat.le_of_ble_eq_true rfl) dX5_takes_2 ⟨Nat.le_of_ble_eq_true rfl, Nat.le_of_ble_eq_true rfl⟩ (fun r1 er1 => ?_)
  have er1 : r1 = if (zv u 0 j = 0 ∨ zv u 0 j = 1) then 1 else 0 := er1
  refine wl_b_eq (tgt := 22) hx hb (zv u 0 j = 0 ∨ zv u 0 j = 1) er1 dX5_takes_5 (by decide) (fun h1 => ?_) (fun h1 => ?_)
  · refine lv_iconst (v := 0) hx hb dX5_takes_22 (by decide) ?_
    exact wl_rz (r := 0) (False) hx hb hr hlocks (by rfl) (by exact (if_neg (fun q => absurd q.1 h1)).symm) dX5_takes_23
  · refine lv_aload_n hx hb dX5_takes_8 rfl (lv_at hl 0 rfl) ?_
    refine lv_iload_n hx hb dX5_takes_9 rfl (lv_at hl 1 rfl) ?_
    refine wl_pV (As := [.int (nI j)]) (rest := []) ⟨hx, hb, hml, hown, hts⟩ (m_X5_comes l D cy a u j n (by omega) hQ (by omega)) (cwV 1 hts gX5_takes_X5_comes rfl rfl rfl (by decide +kernel) ⟨Nat.le_of_ble_eq_true rfl, Nat.le_of_ble_eq_true rfl⟩) hK hP [0] rfl rfl rfl rfl rfl rfl hl.1 rfl (Nat.le_of_ble_eq_true rfl) dX5_takes_10 ⟨Nat.le_of_ble_eq_true rfl, Nat.le_of_ble_eq_true rfl⟩ (fun r2 er2 => ?_)
    have er2 : r2 = nI (q_cm u n j) := er2
    subst er2
    have hcm : q_cm u n j ≤ 120 := by unfold q_cm; split <;> omega
    refine lv_bipush (v := 12) hx hb dX5_takes_13 (by decide) ?_
    refine wl_icmp_lt (tgt := 22) hx hb (q_cm u n j) 12 dX5_takes_15 (by decide) (by omega) (by omega) (fun h2 => ?_) (fun h2 => ?_)
    · refine lv_iconst (v := 0) hx hb dX5_takes_22 (by decide) ?_
      exact wl_rz (r := 0) (False) hx hb hr hlocks (by rfl) (by exact (if_neg (fun q => absurd q.2 (by omega))).symm) dX5_takes_23
    · refine lv_iconst (v := 1) hx hb dX5_takes_18 (by decide) ?_
      refine lv_goto (tgt := 23) hx hb dX5_takes_19 (by decide) ?_
      exact wl_rz (r := 1) (True) hx hb hr hlocks (by rfl) (by exact (if_pos ⟨h1, by omega⟩).symm) dX5_takes_23
set_option maxHeartbeats 4000000 in
set_option maxRecDepth 100000 in
theorem m_X5_wordBehind (l : Launch) (D : va_G) (cy : Nat → ClassId) (a : Nat → Nat) (u : Nat → Nat → Int32) (j n : Nat) (hj : j < 8) (hQ : q_pl u n) (hn2 : n ≤ 120) : Met l yX5_wordBehind wsX5_wordBehind ({ frames := 4, cells := 0, slots := 0, locals := 87 } : Room) (wl_pc D cy [moW cy a u] [.ref (a 0), .int (nI j)]) (vp_Si (fun r : Int32 => r = q_wb u n j)) 0 0 (fun _ => False) := by
  refine wl_ofP (cc := cX5_wordBehind) (maxL := 5) (ret := (some .int)) (by decide) rfl (Nat.le_of_ble_eq_true rfl) ?_
  intro p e s m below meth c ls hx hb hr hts hown hlocks hml hP hK hl
  have hl : lv_has ls 5 [(0, .ref (a 0)), (1, .int (nI j))] := hl
  have lkf7 := hts (.fieldLink RX5 7 "WireLampsModel" "z" "[I") (by decide +kernel)
  have in_X5 : ∀ w ∈ u_ws RX5 TX5 13, w ∈ wsX5_wordBehind := by decide +kernel
  refine lv_aload_n hx hb dX5_wordBehind_0 rfl (lv_at hl 0 rfl) ?_
  refine lv_iload_n hx hb dX5_wordBehind_1 rfl (lv_at hl 1 rfl) ?_
  refine wl_pV (As := [.int (nI j)]) (rest := []) ⟨hx, hb, hml, hown, hts⟩ (m_X5_takes l D cy a u j n (by omega) hQ (by omega)) (cwV 1 hts gX5_wordBehind_X5_takes rfl rfl rfl (by decide +kernel) ⟨Nat.le_of_ble_eq_true rfl, Nat.le_of_ble_eq_true rfl⟩) hK hP [0] rfl rfl rfl rfl rfl rfl hl.1 rfl (Nat.le_of_ble_eq_true rfl) dX5_wordBehind_2 ⟨Nat.le_of_ble_eq_true rfl, Nat.le_of_ble_eq_true rfl⟩ (fun r1 er1 => ?_)
  have er1 : r1 = if (q_tk1 u n j) then 1 else 0 := er1
  refine wl_b_ne (tgt := 18) hx hb (q_tk1 u n j) er1 dX5_wordBehind_5 (by decide) (fun h1 => ?_) (fun h1 => ?_)
  · have htn : 12 * q_ta (zv u) j + 12 ≤ n := by have h3 := h1.2; unfold q_cm at h3; split at h3 <;> omega
    have hta := q_ta_le (zv u) j
    refine lv_bipush (v := 12) hx hb dX5_wordBehind_18 (by decide) ?_
    refine lv_aload_n hx hb dX5_wordBehind_20 rfl (lv_at hl 0 rfl) ?_
    refine lv_iload_n hx hb dX5_wordBehind_21 rfl (lv_at hl 1 rfl) ?_
    refine wl_pV (As := [.int (nI j)]) (rest := [.int 12]) ⟨hx, hb, hml, hown, hts⟩ (m_X5_takersAhead l D cy a u j (by omega)) (cwV 1 hts gX5_wordBehind_X5_takersAhead rfl rfl rfl (by decide +kernel) ⟨Nat.le_of_ble_eq_true rfl, Nat.le_of_ble_eq_true rfl⟩) hK hP [0] rfl rfl rfl rfl rfl rfl hl.1 rfl (Nat.le_of_ble_eq_true rfl) dX5_wordBehind_22 ⟨Nat.le_of_ble_eq_true rfl, Nat.le_of_ble_eq_true rfl⟩ (fun r2 er2 => ?_)
    have er2 : r2 = nI (q_ta (zv u) j) := er2
    subst er2
    refine lv_imul hx hb dX5_wordBehind_25 ?_
    refine wl_top (y := nI (12 * (q_ta (zv u) j))) (pk_mul 12 (q_ta (zv u) j)) ?_
    refine lv_istore_n (lv' := [(2, .int (nI (12 * (q_ta (zv u) j)))), (0, .ref (a 0)), (1, .int (nI j))]) hx hb dX5_wordBehind_26 rfl hl (by decide) rfl (fun ls hl => ?_)
    refine lv_iconst (v := 0) hx hb dX5_wordBehind_27 (by decide) ?_
    refine lv_istore_n (lv' := [(3, .int 0), (2, .int (nI (12 * (q_ta (zv u) j)))), (0, .ref (a 0)), (1, .int (nI j))]) hx hb dX5_wordBehind_28 rfl hl (by decide) rfl (fun ls hl => ?_)
    refine lv_iconst (v := 0) hx hb dX5_wordBehind_29 (by decide) ?_
    refine lv_istore (lv' := [(4, .int 0), (3, .int 0), (2, .int (nI (12 * (q_ta (zv u) j)))), (0, .ref (a 0)), (1, .int (nI j))]) hx hb dX5_wordBehind_30 hl (by decide) rfl (fun ls hl => ?_)
    suffices K3 : ∀ (n4 : Nat) (d : Nat), 12 - d < n4 → (d ≤ 12) → ∀ (ls : Array Slot), lv_has ls 5 [(4, .int (nI d)), (3, .int (q_wd (fun z => q_rdm (zv u) (q_ar (zv u) j (q_le u (12 * q_ta (zv u) j + z)))) d)), (2, .int (nI (12 * (q_ta (zv u) j)))), (0, .ref (a 0)), (1, .int (nI j))] → W p l e ({ frames := 4, cells := 0, slots := 0, locals := 87 } : Room) s m ([.ref (a 0), .int (nI j)] : List Value).toArray below meth c s.heap [] 0 0 (MQ below (vp_Si (fun r : Int32 => r = q_wb u n j)) ([.ref (a 0), .int (nI j)] : List Value).toArray s 0 0 (fun _ => False)) (F0 m 32 ls []) from K3 13 0 (by omega) (by omega) _  (lv_sub hl [0, 1, 2, 3, 4] rfl)
    intro n4
    induction n4 with
    | zero => intro d hm; exact absurd hm (Nat.not_lt_zero _)
    | succ n4 ih5 =>
      intro d hm hd ls  hl
      refine lv_iload hx hb dX5_wordBehind_32 (lv_at hl 0 rfl) ?_
      refine lv_bipush (v := 12) hx hb dX5_wordBehind_34 (by decide) ?_
      refine wl_icmp_ge (tgt := 74) hx hb d 12 dX5_wordBehind_36 (by decide) (by omega) (by omega) (fun c6 => ?_) (fun c6 => ?_)
      · refine lv_iload_n hx hb dX5_wordBehind_74 rfl (lv_at hl 1 rfl) ?_
        exact wl_ri (r := (q_wd (fun z => q_rdm (zv u) (q_ar (zv u) j (q_le u (12 * q_ta (zv u) j + z)))) d)) hx hb hr hlocks (by obtain rfl : d = 12 := (by omega); exact (if_pos h1).symm) dX5_wordBehind_75
      · refine lv_iconst (v := 2) hx hb dX5_wordBehind_39 (by decide) ?_
        refine lv_iload_n hx hb dX5_wordBehind_40 rfl (lv_at hl 1 rfl) ?_
        refine lv_imul hx hb dX5_wordBehind_41 ?_
        refine lv_aload_n hx hb dX5_wordBehind_42 rfl (lv_at hl 3 rfl) ?_
        refine lv_iload_n hx hb dX5_wordBehind_43 rfl (lv_at hl 4 rfl) ?_
        refine lv_iload_n hx hb dX5_wordBehind_44 rfl (lv_at hl 2 rfl) ?_
        refine lv_iload hx hb dX5_wordBehind_45 (lv_at hl 0 rfl) ?_
        refine lv_iadd hx hb dX5_wordBehind_47 ?_
        refine wl_top (y := nI ((12 * (q_ta (zv u) j)) + d)) (nI_add (12 * (q_ta (zv u) j)) d) ?_
        refine wl_pV (As := [.int (nI j), .int (nI ((12 * (q_ta (zv u) j)) + d))]) (rest := [.int (2 * (q_wd (fun z => q_rdm (zv u) (q_ar (zv u) j (q_le u (12 * q_ta (zv u) j + z)))) d))]) ⟨hx, hb, hml, hown, hts⟩ (m_X5_arrives l D cy a u j ((12 * (q_ta (zv u) j)) + d) (by omega) (by omega)) (cwV 2 hts gX5_wordBehind_X5_arrives rfl rfl rfl (by decide +kernel) ⟨Nat.le_of_ble_eq_true rfl, Nat.le_of_ble_eq_true rfl⟩) hK hP [0] rfl rfl rfl rfl rfl rfl hl.1 rfl (Nat.le_of_ble_eq_true rfl) dX5_wordBehind_48 ⟨Nat.le_of_ble_eq_true rfl, Nat.le_of_ble_eq_true rfl⟩ (fun r7 er7 => ?_)
        have er7 : r7 = q_ar (zv u) j (q_le u ((12 * (q_ta (zv u) j)) + d)) := er7
        subst er7
        refine lv_aload_n hx hb dX5_wordBehind_51 rfl (lv_at hl 3 rfl) ?_
        refine wl_getf (C := RX5) (T := TX5) (N := 13) (ci := 5) (v := .ref (a 1)) hx hb hts in_X5 hown hK hP 0 0 rfl rfl rfl 0 (by decide) lkf7 rfl rfl dX5_wordBehind_52 ?_
        refine lv_bipush (v := 40) hx hb dX5_wordBehind_55 (by decide) ?_
        refine wl_iald hx hb hK hP 0 1 rfl rfl 40 (by omega) (Nat.le_of_ble_eq_true rfl) dX5_wordBehind_57 ?_
        refine wl_top (y := zv u 5 0) rfl ?_
        have K10 : ∀ (ls : Array Slot) (v9 : Int32), v9 = (if (q_ar (zv u) j (q_le u ((12 * (q_ta (zv u) j)) + d))) < (zv u 5 0) then 0 else 1) → lv_has ls 5 [(4, .int (nI d)), (2, .int (nI (12 * (q_ta (zv u) j)))), (0, .ref (a 0)), (1, .int (nI j))] → W p l e ({ frames := 4, cells := 0, slots := 0, locals := 87 } : Room) s m ([.ref (a 0), .int (nI j)] : List Value).toArray below meth c s.heap [] 0 0 (MQ below (vp_Si (fun r : Int32 => r = q_wb u n j)) ([.ref (a 0), .int (nI j)] : List Value).toArray s 0 0 (fun _ => False)) (F0 m 66 ls [.int v9, .int (2 * (q_wd (fun z => q_rdm (zv u) (q_ar (zv u) j (q_le u (12 * q_ta (zv u) j + z)))) d))]) := by
          intro ls v9 ev9  hl
          refine lv_iadd hx hb dX5_wordBehind_66 ?_
          refine lv_istore_n (lv' := [(3, .int ((2 * (q_wd (fun z => q_rdm (zv u) (q_ar (zv u) j (q_le u (12 * q_ta (zv u) j + z)))) d)) + v9)), (4, .int (nI d)), (2, .int (nI (12 * (q_ta (zv u) j)))), (0, .ref (a 0)), (1, .int (nI j))]) hx hb dX5_wordBehind_67 rfl hl (by decide) rfl (fun ls hl => ?_)
          refine lv_iinc (v := nI (d + 1)) (lv' := [(4, .int (nI (d + 1))), (3, .int ((2 * (q_wd (fun z => q_rdm (zv u) (q_ar (zv u) j (q_le u (12 * q_ta (zv u) j + z)))) d)) + v9)), (2, .int (nI (12 * (q_ta (zv u) j)))), (0, .ref (a 0)), (1, .int (nI j))]) hx hb dX5_wordBehind_68 hl (k := 1) rfl (wl_inc d) (by decide) rfl (fun ls hl => ?_)
          refine lv_goto (tgt := 32) hx hb dX5_wordBehind_71 (by decide) ?_
          subst ev9
          exact ih5 (d + 1) (by omega) (by omega) _  (lv_sub hl [0, 1, 2, 3, 4] rfl)
        refine lv_icmp_lt (tgt := 65) hx hb dX5_wordBehind_58 (by decide) (fun c8 => ?_) (fun c8 => ?_)
        · refine lv_iconst (v := 0) hx hb dX5_wordBehind_65 (by decide) ?_
          exact K10 _ 0 (by rw [if_pos c8]) (lv_sub hl [0, 2, 3, 4] rfl)
        · refine lv_iconst (v := 1) hx hb dX5_wordBehind_61 (by decide) ?_
          refine lv_goto (tgt := 66) hx hb dX5_wordBehind_62 (by decide) ?_
          exact K10 _ 1 (by rw [if_neg c8]) (lv_sub hl [0, 2, 3, 4] rfl)
  · refine lv_aload_n hx hb dX5_wordBehind_8 rfl (lv_at hl 0 rfl) ?_
    refine wl_getf (C := RX5) (T := TX5) (N := 13) (ci := 5) (v := .ref (a 1)) hx hb hts in_X5 hown hK hP 0 0 rfl rfl rfl 0 (by decide) lkf7 rfl rfl dX5_wordBehind_9 ?_
    refine lv_bipush (v := 16) hx hb dX5_wordBehind_12 (by decide) ?_
    refine lv_iload_n hx hb dX5_wordBehind_14 rfl (lv_at hl 1 rfl) ?_
    refine lv_iadd hx hb dX5_wordBehind_15 ?_
    refine wl_top (y := nI (16 + j)) (nI_add 16 j) ?_
    refine wl_iald hx hb hK hP 0 1 rfl rfl (16 + j) (by omega) (Nat.le_of_ble_eq_true rfl) dX5_wordBehind_16 ?_
    refine wl_top (y := zv u 2 j) rfl ?_
    exact wl_ri (r := (zv u 2 j)) hx hb hr hlocks (by exact (if_neg h1).symm) dX5_wordBehind_17
set_option maxHeartbeats 4000000 in
set_option maxRecDepth 100000 in
theorem m_X5_takers (l : Launch) (D : va_G) (cy : Nat → ClassId) (a : Nat → Nat) (u : Nat → Nat → Int32) (n : Nat) (hQ : q_pl u n) (hn2 : n ≤ 120) : Met l yX5_takers wsX5_takers ({ frames := 4, cells := 0, slots := 0, locals := 87 } : Room) (wl_pc D cy [moW cy a u] [.ref (a 0)]) (vp_Si (fun r : Int32 => r = nI (q_tk u n 8))) 0 0 (fun _ => False) := by
  refine wl_ofP (cc := cX5_takers) (maxL := 3) (ret := (some .int)) (by decide) rfl (Nat.le_of_ble_eq_true rfl) ?_
  intro p e s m below meth c ls hx hb hr hts hown hlocks hml hP hK hl
  have hl : lv_has ls 3 [(0, .ref (a 0))] := hl
  refine lv_iconst (v := 0) hx hb dX5_takers_0 (by decide) ?_
  refine lv_istore_n (lv' := [(1, .int 0), (0, .ref (a 0))]) hx hb dX5_takers_1 rfl hl (by decide) rfl (fun ls hl => ?_)
  refine lv_iconst (v := 0) hx hb dX5_takers_2 (by decide) ?_
  refine lv_istore_n (lv' := [(2, .int 0), (1, .int 0), (0, .ref (a 0))]) hx hb dX5_takers_3 rfl hl (by decide) rfl (fun ls hl => ?_)
  suffices K1 : ∀ (n2 : Nat) (i : Nat), 8 - i < n2 → (i ≤ 8) → ∀ (ls : Array Slot), lv_has ls 3 [(2, .int (nI i)), (1, .int (q_tki u n i)), (0, .ref (a 0))] → W p l e ({ frames := 4, cells := 0, slots := 0, locals := 87 } : Room) s m ([.ref (a 0)] : List Value).toArray below meth c s.heap [] 0 0 (MQ below (vp_Si (fun r : Int32 => r = nI (q_tk u n 8))) ([.ref (a 0)] : List Value).toArray s 0 0 (fun _ => False)) (F0 m 4 ls []) from K1 9 0 (by omega) (by omega) _  (lv_sub hl [0, 1, 2] rfl)
  intro n2
  induction n2 with
  | zero => intro i hm; exact absurd hm (Nat.not_lt_zero _)
  | succ n2 ih3 =>
    intro i hm hi ls  hl
    refine lv_iload_n hx hb dX5_takers_4 rfl (lv_at hl 0 rfl) ?_
    refine lv_bipush (v := 8) hx hb dX5_takers_5 (by decide) ?_
    refine wl_icmp_ge (tgt := 32) hx hb i 8 dX5_takers_7 (by decide) (by omega) (by omega) (fun c4 => ?_) (fun c4 => ?_)
    · refine lv_iload_n hx hb dX5_takers_32 rfl (lv_at hl 1 rfl) ?_
      exact wl_ri (r := (q_tki u n i)) hx hb hr hlocks (by obtain rfl : i = 8 := (by omega); exact q_tki_eq _ _ _) dX5_takers_33
    · refine lv_iload_n hx hb dX5_takers_10 rfl (lv_at hl 1 rfl) ?_
      refine lv_aload_n hx hb dX5_takers_11 rfl (lv_at hl 2 rfl) ?_
      refine lv_iload_n hx hb dX5_takers_12 rfl (lv_at hl 0 rfl) ?_
      refine wl_pV (As := [.int (nI i)]) (rest := [.int (q_tki u n i)]) ⟨hx, hb, hml, hown, hts⟩ (m_X5_takes l D cy a u i n (by omega) hQ (by omega)) (cwV 1 hts gX5_takers_X5_takes rfl rfl rfl (by decide +kernel) ⟨Nat.le_of_ble_eq_true rfl, Nat.le_of_ble_eq_true rfl⟩) hK hP [0] rfl rfl rfl rfl rfl rfl hl.1 rfl (Nat.le_of_ble_eq_true rfl) dX5_takers_13 ⟨Nat.le_of_ble_eq_true rfl, Nat.le_of_ble_eq_true rfl⟩ (fun r5 er5 => ?_)
      have er5 : r5 = if (q_tk1 u n i) then 1 else 0 := er5
      have K8 : ∀ (ls : Array Slot) (v7 : Int32), v7 = (if (q_tk1 u n i) then 1 else 0) → lv_has ls 3 [(2, .int (nI i)), (0, .ref (a 0))] → W p l e ({ frames := 4, cells := 0, slots := 0, locals := 87 } : Room) s m ([.ref (a 0)] : List Value).toArray below meth c s.heap [] 0 0 (MQ below (vp_Si (fun r : Int32 => r = nI (q_tk u n 8))) ([.ref (a 0)] : List Value).toArray s 0 0 (fun _ => False)) (F0 m 24 ls [.int v7, .int (q_tki u n i)]) := by
        intro ls v7 ev7  hl
        refine lv_iadd hx hb dX5_takers_24 ?_
        refine lv_istore_n (lv' := [(1, .int ((q_tki u n i) + v7)), (2, .int (nI i)), (0, .ref (a 0))]) hx hb dX5_takers_25 rfl hl (by decide) rfl (fun ls hl => ?_)
        refine lv_iinc (v := nI (i + 1)) (lv' := [(2, .int (nI (i + 1))), (1, .int ((q_tki u n i) + v7)), (0, .ref (a 0))]) hx hb dX5_takers_26 hl (k := 1) rfl (wl_inc i) (by decide) rfl (fun ls hl => ?_)
        refine lv_goto (tgt := 4) hx hb dX5_takers_29 (by decide) ?_
        subst ev7
        exact ih3 (i + 1) (by omega) (by omega) _  (lv_sub hl [0, 1, 2] rfl)
      refine wl_b_eq (tgt := 23) hx hb (q_tk1 u n i) er5 dX5_takers_16 (by decide) (fun c6 => ?_) (fun c6 => ?_)
      · refine lv_iconst (v := 0) hx hb dX5_takers_23 (by decide) ?_
        exact K8 _ 0 (by rw [if_neg c6]) (lv_sub hl [0, 2] rfl)
      · refine lv_iconst (v := 1) hx hb dX5_takers_19 (by decide) ?_
        refine lv_goto (tgt := 24) hx hb dX5_takers_20 (by decide) ?_
        exact K8 _ 1 (by rw [if_pos c6]) (lv_sub hl [0, 2] rfl)
set_option maxHeartbeats 4000000 in
set_option maxRecDepth 100000 in
theorem m_X5_addPulse (l : Launch) (D : va_G) (cy : Nat → ClassId) (a : Nat → Nat) (u : Nat → Nat → Int32) (x : Int32) (n : Nat) (sz : Nat) (hn : u 0 49 = nI n) (hn2 : n < 120) : Met l yX5_addPulse wsX5_addPulse ({ frames := 0, cells := 0, slots := 0, locals := 0 } : Room) (wl_ic D cy (fun _ => True) [moW cy a u] sz [.ref (a 0), .int x]) (va_Qv (fun (bs : List va_W) => bs = [moW cy a (q_ap u n x)]) (wl_ib D [moW cy a u] sz) (va_A ([moW cy a u] : List va_W).flatten sz)) 0 0 (va_A ([moW cy a u] : List va_W).flatten sz) := by
  refine wl_ofI (cc := cX5_addPulse) (maxL := 2) (ret := none) (by decide) rfl (Nat.le_of_ble_eq_true rfl) ?_
  intro p e s m below meth c ls A hx hb hr hts hown hlocks hml hnm hsz hAe hP hK hD hX hA hS hl
  have hl : lv_has ls 2 [(0, .ref (a 0)), (1, .int x)] := hl
  have lkf7 := hts (.fieldLink RX5 7 "WireLampsModel" "z" "[I") (by decide +kernel)
  have in_X5 : ∀ w ∈ u_ws RX5 TX5 13, w ∈ wsX5_addPulse := by decide +kernel
  refine lv_aload_n hx hb dX5_addPulse_0 rfl (lv_at hl 0 rfl) ?_
  refine wl_getf (C := RX5) (T := TX5) (N := 13) (ci := 5) (v := .ref (a 1)) hx hb hts in_X5 hown hK hP 0 0 rfl rfl rfl 0 (by decide) lkf7 rfl rfl dX5_addPulse_1 ?_
  refine lv_bipush (v := 50) hx hb dX5_addPulse_4 (by decide) ?_
  refine lv_aload_n hx hb dX5_addPulse_6 rfl (lv_at hl 0 rfl) ?_
  refine wl_getf (C := RX5) (T := TX5) (N := 13) (ci := 5) (v := .ref (a 1)) hx hb hts in_X5 hown hK hP 0 0 rfl rfl rfl 0 (by decide) lkf7 rfl rfl dX5_addPulse_7 ?_
  refine lv_bipush (v := 49) hx hb dX5_addPulse_10 (by decide) ?_
  refine wl_iald hx hb hK hP 0 1 rfl rfl 49 (by omega) (Nat.le_of_ble_eq_true rfl) dX5_addPulse_12 ?_
  refine wl_top (y := nI n) hn ?_
  refine lv_iadd hx hb dX5_addPulse_13 ?_
  refine wl_top (y := nI (50 + n)) (nI_add 50 n) ?_
  refine lv_iload_n hx hb dX5_addPulse_14 rfl (lv_at hl 1 rfl) ?_
  refine wl_iast hx hb hK hP hD hS 0 1 rfl rfl (50 + n) (by omega) (Nat.le_of_ble_eq_true rfl) dX5_addPulse_15 (fun H locs hP hD hS => ?_)
  have hP : va_P D vwCl ([moW cy a (su u 0 (50 + n) x)] : List va_W).flatten H := hP
  have hD : va_D A ([moW cy a (su u 0 (50 + n) x)] : List va_W).flatten := hD
  refine lv_aload_n hx hb dX5_addPulse_16 rfl (lv_at hl 0 rfl) ?_
  refine wl_getf (C := RX5) (T := TX5) (N := 13) (ci := 5) (v := .ref (a 1)) hx hb hts in_X5 hown hK hP 0 0 rfl rfl rfl 0 (by decide) lkf7 rfl rfl dX5_addPulse_17 ?_
  refine lv_bipush (v := 49) hx hb dX5_addPulse_20 (by decide) ?_
  refine lv_dup2_11 hx hb dX5_addPulse_22 rfl rfl ?_
  refine wl_iald hx hb hK hP 0 1 rfl rfl 49 (by omega) (Nat.le_of_ble_eq_true rfl) dX5_addPulse_23 ?_
  refine wl_top (y := nI n) (q_su49.trans hn) ?_
  refine lv_iconst (v := 1) hx hb dX5_addPulse_24 (by decide) ?_
  refine lv_iadd hx hb dX5_addPulse_25 ?_
  refine wl_top (y := nI (n + 1)) (nI_add n 1) ?_
  refine wl_iast hx hb hK hP hD hS 0 1 rfl rfl 49 (by omega) (Nat.le_of_ble_eq_true rfl) dX5_addPulse_26 (fun H locs hP hD hS => ?_)
  have hP : va_P D vwCl ([moW cy a (su (su u 0 (50 + n) x) 0 49 (nI (n + 1)))] : List va_W).flatten H := hP
  have hD : va_D A ([moW cy a (su (su u 0 (50 + n) x) 0 49 (nI (n + 1)))] : List va_W).flatten := hD
  refine lv_aload_n hx hb dX5_addPulse_27 rfl (lv_at hl 0 rfl) ?_
  refine wl_getf (C := RX5) (T := TX5) (N := 13) (ci := 5) (v := .ref (a 1)) hx hb hts in_X5 hown hK hP 0 0 rfl rfl rfl 0 (by decide) lkf7 rfl rfl dX5_addPulse_28 ?_
  refine lv_bipush (v := 44) hx hb dX5_addPulse_31 (by decide) ?_
  refine lv_dup2_11 hx hb dX5_addPulse_33 rfl rfl ?_
  refine wl_iald hx hb hK hP 0 1 rfl rfl 44 (by omega) (Nat.le_of_ble_eq_true rfl) dX5_addPulse_34 ?_
  refine lv_iconst (v := 1) hx hb dX5_addPulse_35 (by decide) ?_
  refine lv_iadd hx hb dX5_addPulse_36 ?_
  refine wl_iast hx hb hK hP hD hS 0 1 rfl rfl 44 (by omega) (Nat.le_of_ble_eq_true rfl) dX5_addPulse_37 (fun H locs hP hD hS => ?_)
  have hP : va_P D vwCl ([moW cy a (su (su (su u 0 (50 + n) x) 0 49 (nI (n + 1))) 0 44 (((su (su u 0 (50 + n) x) 0 49 (nI (n + 1))) 0 44) + 1))] : List va_W).flatten H := hP
  have hD : va_D A ([moW cy a (su (su (su u 0 (50 + n) x) 0 49 (nI (n + 1))) 0 44 (((su (su u 0 (50 + n) x) 0 49 (nI (n + 1))) 0 44) + 1))] : List va_W).flatten := hD
  exact wl_Rv (bs := [moW cy a (su (su (su u 0 (50 + n) x) 0 49 (nI (n + 1))) 0 44 (((su (su u 0 (50 + n) x) 0 49 (nI (n + 1))) 0 44) + 1))]) hx hb hr hlocks hAe hP hD hS (by rfl) dX5_addPulse_38
set_option maxHeartbeats 4000000 in
set_option maxRecDepth 100000 in
theorem m_X5_sendNow (l : Launch) (D : va_G) (cy : Nat → ClassId) (a : Nat → Nat) (u : Nat → Nat → Int32) (x : Int32) (n : Nat) (sz : Nat) (hn : u 0 49 = nI n) (hn2 : n + 12 ≤ 120) : Met l yX5_sendNow wsX5_sendNow ({ frames := 1, cells := 0, slots := 0, locals := 21 } : Room) (wl_ic D cy (fun _ => True) [moW cy a u] sz [.ref (a 0), .int x]) (va_Qv (fun (bs : List va_W) => bs = [moW cy a (q_sn u n x 12)]) (wl_ib D [moW cy a u] sz) (va_A ([moW cy a u] : List va_W).flatten sz)) 0 0 (va_A ([moW cy a u] : List va_W).flatten sz) := by
  refine wl_ofI (cc := cX5_sendNow) (maxL := 3) (ret := none) (by decide) rfl (Nat.le_of_ble_eq_true rfl) ?_
  intro p e s m below meth c ls A hx hb hr hts hown hlocks hml hnm hsz hAe hP hK hD hX hA hS hl
  have hl : lv_has ls 3 [(0, .ref (a 0)), (1, .int x)] := hl
  refine lv_iconst (v := 0) hx hb dX5_sendNow_0 (by decide) ?_
  refine lv_istore_n (lv' := [(2, .int 0), (0, .ref (a 0)), (1, .int x)]) hx hb dX5_sendNow_1 rfl hl (by decide) rfl (fun ls hl => ?_)
  suffices K1 : ∀ (n2 : Nat) (d : Nat), 12 - d < n2 → (d ≤ 12) → ∀ (ls : Array Slot) (H : Heap) (locs : List Loc), va_P D vwCl ([moW cy a (q_sn u n x d)] : List va_W).flatten H → va_D A ([moW cy a (q_sn u n x d)] : List va_W).flatten → va_S A s.heap H locs → lv_has ls 3 [(2, .int (nI d)), (0, .ref (a 0)), (1, .int x)] → W p l e ({ frames := 1, cells := 0, slots := 0, locals := 21 } : Room) s m ([.ref (a 0), .int x] : List Value).toArray below meth c H locs 0 0 (MQ below (va_Qv (fun (bs : List va_W) => bs = [moW cy a (q_sn u n x 12)]) (wl_ib D [moW cy a u] sz) (va_A ([moW cy a u] : List va_W).flatten sz)) ([.ref (a 0), .int x] : List Value).toArray s 0 0 (va_A ([moW cy a u] : List va_W).flatten sz)) (F0 m 2 ls []) from K1 13 0 (by omega) (by omega) _ _ _ hP hD hS (lv_sub hl [0, 1, 2] rfl)
  intro n2
  induction n2 with
  | zero => intro d hm; exact absurd hm (Nat.not_lt_zero _)
  | succ n2 ih3 =>
    intro d hm hd ls H locs hP hD hS hl
    refine lv_iload_n hx hb dX5_sendNow_2 rfl (lv_at hl 0 rfl) ?_
    refine lv_bipush (v := 12) hx hb dX5_sendNow_3 (by decide) ?_
    refine wl_icmp_ge (tgt := 23) hx hb d 12 dX5_sendNow_5 (by decide) (by omega) (by omega) (fun c4 => ?_) (fun c4 => ?_)
    · exact wl_Rv (bs := [moW cy a (q_sn u n x d)]) hx hb hr hlocks hAe hP hD hS (by obtain rfl : d = 12 := (by omega); rfl) dX5_sendNow_23
    · refine lv_aload_n hx hb dX5_sendNow_8 rfl (lv_at hl 1 rfl) ?_
      refine lv_iload_n hx hb dX5_sendNow_9 rfl (lv_at hl 2 rfl) ?_
      refine lv_iload_n hx hb dX5_sendNow_10 rfl (lv_at hl 0 rfl) ?_
      refine wl_pS (As := [.int x, .int (nI d)]) (rest := [.ref (a 0)]) ⟨hx, hb, hml, hown, hts⟩ (m_X5_pulseOf l D cy x d ) (va_cwS 2 hts gX5_sendNow_X5_pulseOf rfl rfl rfl (by decide +kernel) ⟨Nat.le_of_ble_eq_true rfl, Nat.le_of_ble_eq_true rfl⟩) hK hP [] rfl rfl hl.1 rfl (Nat.le_of_ble_eq_true rfl) dX5_sendNow_11 ⟨Nat.le_of_ble_eq_true rfl, Nat.le_of_ble_eq_true rfl⟩ (fun r5 er5 => ?_)
      have er5 : r5 = q_bit x d := er5
      subst er5
      refine wl_iVv (As := [.int (q_bit x d)]) (rest := []) (bsC := [moW cy a (q_sn u n x d)]) (bsR := []) ⟨hx, hb, hml, hown, hts⟩ (m_X5_addPulse l D cy a (q_sn u n x d) (q_bit x d) (n + d) H.size (q_sn_cnt hn d) (by omega)) (cwV 1 hts gX5_sendNow_X5_addPulse rfl rfl rfl (by decide +kernel) ⟨Nat.le_of_ble_eq_true rfl, Nat.le_of_ble_eq_true rfl⟩) wl_xT (fun _ _ _ => trivial) hK hP hD hS hA rfl rfl rfl rfl rfl hl.1 rfl (Nat.le_of_ble_eq_true rfl) dX5_sendNow_14 ⟨Nat.le_of_ble_eq_true rfl, Nat.le_of_ble_eq_true rfl⟩ (fun bs6 H locs e7 _ _ hP hD hS => ?_)
      have e7 : bs6 = [moW cy a (q_ap (q_sn u n x d) (n + d) (q_bit x d))] := e7
      subst e7
      have hP : va_P D vwCl ([moW cy a (q_ap (q_sn u n x d) (n + d) (q_bit x d))] : List va_W).flatten H := hP
      have hD : va_D A ([moW cy a (q_ap (q_sn u n x d) (n + d) (q_bit x d))] : List va_W).flatten := hD
      refine lv_iinc (v := nI (d + 1)) (lv' := [(2, .int (nI (d + 1))), (0, .ref (a 0)), (1, .int x)]) hx hb dX5_sendNow_17 hl (k := 0) rfl (wl_inc d) (by decide) rfl (fun ls hl => ?_)
      refine lv_goto (tgt := 2) hx hb dX5_sendNow_20 (by decide) ?_
      exact ih3 (d + 1) (by omega) (by omega) _ _ _ hP hD hS (lv_sub hl [0, 1, 2] rfl)
set_option maxHeartbeats 4000000 in
set_option maxRecDepth 100000 in
theorem m_X5_emptyFrame (l : Launch) (D : va_G) (cy : Nat → ClassId) (a : Nat → Nat) (u : Nat → Nat → Int32) (sz : Nat)  : Met l yX5_emptyFrame wsX5_emptyFrame ({ frames := 0, cells := 0, slots := 0, locals := 0 } : Room) (wl_ic D cy (fun _ => True) [moW cy a u] sz [.ref (a 0)]) (va_Qv (fun (bs : List va_W) => bs = [moW cy a (q_emf u)]) (wl_ib D [moW cy a u] sz) (va_A ([moW cy a u] : List va_W).flatten sz)) 0 0 (va_A ([moW cy a u] : List va_W).flatten sz) := by
  refine wl_ofI (cc := cX5_emptyFrame) (maxL := 2) (ret := none) (by decide) rfl (Nat.le_of_ble_eq_true rfl) ?_
  intro p e s m below meth c ls A hx hb hr hts hown hlocks hml hnm hsz hAe hP hK hD hX hA hS hl
  have hl : lv_has ls 2 [(0, .ref (a 0))] := hl
  have lkf7 := hts (.fieldLink RX5 7 "WireLampsModel" "z" "[I") (by decide +kernel)
  have in_X5 : ∀ w ∈ u_ws RX5 TX5 13, w ∈ wsX5_emptyFrame := by decide +kernel
  refine lv_iconst (v := 0) hx hb dX5_emptyFrame_0 (by decide) ?_
  refine lv_istore_n (lv' := [(1, .int 0), (0, .ref (a 0))]) hx hb dX5_emptyFrame_1 rfl hl (by decide) rfl (fun ls hl => ?_)
  suffices K1 : ∀ (n2 : Nat) (i : Nat) (Y : Nat → Nat → Int32), 120 - i < n2 → (i ≤ 120) → (Y = sf u 0 (q_zf (u 0) i)) → ∀ (ls : Array Slot) (H : Heap) (locs : List Loc), va_P D vwCl ([moW cy a Y] : List va_W).flatten H → va_D A ([moW cy a Y] : List va_W).flatten → va_S A s.heap H locs → lv_has ls 2 [(1, .int (nI i)), (0, .ref (a 0))] → W p l e ({ frames := 0, cells := 0, slots := 0, locals := 0 } : Room) s m ([.ref (a 0)] : List Value).toArray below meth c H locs 0 0 (MQ below (va_Qv (fun (bs : List va_W) => bs = [moW cy a (q_emf u)]) (wl_ib D [moW cy a u] sz) (va_A ([moW cy a u] : List va_W).flatten sz)) ([.ref (a 0)] : List Value).toArray s 0 0 (va_A ([moW cy a u] : List va_W).flatten sz)) (F0 m 2 ls []) from K1 121 0 u (by omega) (by omega) q_zf0 _ _ _ hP hD hS (lv_sub hl [0, 1] rfl)
  intro n2
  induction n2 with
  | zero => intro i Y hm; exact absurd hm (Nat.not_lt_zero _)
  | succ n2 ih3 =>
    intro i Y hm hi hW ls H locs hP hD hS hl
    refine lv_iload_n hx hb dX5_emptyFrame_2 rfl (lv_at hl 0 rfl) ?_
    refine lv_bipush (v := 120) hx hb dX5_emptyFrame_3 (by decide) ?_
    refine wl_icmp_ge (tgt := 24) hx hb i 120 dX5_emptyFrame_5 (by decide) (by omega) (by omega) (fun c4 => ?_) (fun c4 => ?_)
    · refine lv_aload_n hx hb dX5_emptyFrame_24 rfl (lv_at hl 1 rfl) ?_
      refine wl_getf (C := RX5) (T := TX5) (N := 13) (ci := 5) (v := .ref (a 1)) hx hb hts in_X5 hown hK hP 0 0 rfl rfl rfl 0 (by decide) lkf7 rfl rfl dX5_emptyFrame_25 ?_
      refine lv_bipush (v := 49) hx hb dX5_emptyFrame_28 (by decide) ?_
      refine lv_iconst (v := 0) hx hb dX5_emptyFrame_30 (by decide) ?_
      refine wl_iast hx hb hK hP hD hS 0 1 rfl rfl 49 (by omega) (Nat.le_of_ble_eq_true rfl) dX5_emptyFrame_31 (fun H locs hP hD hS => ?_)
      have hP : va_P D vwCl ([moW cy a (su Y 0 49 0)] : List va_W).flatten H := hP
      have hD : va_D A ([moW cy a (su Y 0 49 0)] : List va_W).flatten := hD
      exact wl_Rv (bs := [moW cy a (su Y 0 49 0)]) hx hb hr hlocks hAe hP hD hS (by obtain rfl : i = 120 := (by omega); subst hW; rfl) dX5_emptyFrame_32
    · refine lv_aload_n hx hb dX5_emptyFrame_8 rfl (lv_at hl 1 rfl) ?_
      refine wl_getf (C := RX5) (T := TX5) (N := 13) (ci := 5) (v := .ref (a 1)) hx hb hts in_X5 hown hK hP 0 0 rfl rfl rfl 0 (by decide) lkf7 rfl rfl dX5_emptyFrame_9 ?_
      refine lv_bipush (v := 50) hx hb dX5_emptyFrame_12 (by decide) ?_
      refine lv_iload_n hx hb dX5_emptyFrame_14 rfl (lv_at hl 0 rfl) ?_
      refine lv_iadd hx hb dX5_emptyFrame_15 ?_
      refine wl_top (y := nI (50 + i)) (nI_add 50 i) ?_
      refine lv_iconst (v := 0) hx hb dX5_emptyFrame_16 (by decide) ?_
      refine wl_iast hx hb hK hP hD hS 0 1 rfl rfl (50 + i) (by omega) (Nat.le_of_ble_eq_true rfl) dX5_emptyFrame_17 (fun H locs hP hD hS => ?_)
      have hP : va_P D vwCl ([moW cy a (su Y 0 (50 + i) 0)] : List va_W).flatten H := hP
      have hD : va_D A ([moW cy a (su Y 0 (50 + i) 0)] : List va_W).flatten := hD
      refine lv_iinc (v := nI (i + 1)) (lv' := [(1, .int (nI (i + 1))), (0, .ref (a 0))]) hx hb dX5_emptyFrame_18 hl (k := 0) rfl (wl_inc i) (by decide) rfl (fun ls hl => ?_)
      refine lv_goto (tgt := 2) hx hb dX5_emptyFrame_21 (by decide) ?_
      exact ih3 (i + 1) (su Y 0 (50 + i) 0) (by omega) (by omega) (by rw [hW]; exact q_zf1) _ _ _ hP hD hS (lv_sub hl [0, 1] rfl)
set_option maxHeartbeats 4000000 in
set_option maxRecDepth 100000 in
theorem m_X5_gapNow (l : Launch) (D : va_G) (cy : Nat → ClassId) (a : Nat → Nat) (u : Nat → Nat → Int32) (n : Nat) (sz : Nat) (hn : u 0 49 = nI n) (hn2 : n ≤ 120) : Met l yX5_gapNow wsX5_gapNow ({ frames := 5, cells := 0, slots := 0, locals := 111 } : Room) (wl_ic D cy (fun _ => True) [moW cy a u] sz [.ref (a 0)]) (va_Qi (fun (r : Int32) (bs : List va_W) => r = q_gc (su u 6 3 (-1)) n 8 ∧ bs = [moW cy a (q_gq u n)]) (wl_ib D [moW cy a u] sz) (va_A ([moW cy a u] : List va_W).flatten sz)) 0 0 (va_A ([moW cy a u] : List va_W).flatten sz) := by
  refine wl_ofI (cc := cX5_gapNow) (maxL := 5) (ret := (some .int)) (by decide) rfl (Nat.le_of_ble_eq_true rfl) ?_
  intro p e s m below meth c ls A hx hb hr hts hown hlocks hml hnm hsz hAe hP hK hD hX hA hS hl
  have hl : lv_has ls 5 [(0, .ref (a 0))] := hl
  have lkf26 := hts (.fieldLink RX5 26 "WireLampsModel" "trial" "I") (by decide +kernel)
  have lkf7 := hts (.fieldLink RX5 7 "WireLampsModel" "z" "[I") (by decide +kernel)
  have in_X5 : ∀ w ∈ u_ws RX5 TX5 13, w ∈ wsX5_gapNow := by decide +kernel
  refine lv_aload_n hx hb dX5_gapNow_0 rfl (lv_at hl 0 rfl) ?_
  refine lv_iconst (v := (-1)) hx hb dX5_gapNow_1 (by decide) ?_
  refine wl_putf (C := RX5) (T := TX5) (N := 13) (ci := 5) (v := .int (-1)) hx hb hts in_X5 tyX5 tyX5_ok nmX5 hown hK hP hD hS 0 0 rfl rfl rfl 8 (by decide) lkf26 rfl rfl rfl rfl (Nat.le_of_ble_eq_true rfl) dX5_gapNow_2 (fun H locs hP hD hS => ?_)
  have hP : va_P D vwCl ([moW cy a (su u 6 3 (-1))] : List va_W).flatten H := hP
  have hD : va_D A ([moW cy a (su u 6 3 (-1))] : List va_W).flatten := hD
  refine lv_iconst (v := 0) hx hb dX5_gapNow_5 (by decide) ?_
  refine lv_istore_n (lv' := [(1, .int 0), (0, .ref (a 0))]) hx hb dX5_gapNow_6 rfl hl (by decide) rfl (fun ls hl => ?_)
  refine lv_bipush (v := 12) hx hb dX5_gapNow_7 (by decide) ?_
  refine lv_aload_n hx hb dX5_gapNow_9 rfl (lv_at hl 1 rfl) ?_
  refine wl_pV (As := []) (rest := [.int 12]) ⟨hx, hb, hml, hown, hts⟩ (m_X5_takers l D cy a (su u 6 3 (-1)) n (Or.inl ⟨rfl, hn⟩) (by omega)) (cwV 0 hts gX5_gapNow_X5_takers rfl rfl rfl (by decide +kernel) ⟨Nat.le_of_ble_eq_true rfl, Nat.le_of_ble_eq_true rfl⟩) hK hP [0] rfl rfl rfl rfl rfl rfl hl.1 rfl (Nat.le_of_ble_eq_true rfl) dX5_gapNow_10 ⟨Nat.le_of_ble_eq_true rfl, Nat.le_of_ble_eq_true rfl⟩ (fun r1 er1 => ?_)
  have er1 : r1 = nI (q_tk (su u 6 3 (-1)) n 8) := er1
  subst er1
  refine lv_imul hx hb dX5_gapNow_13 ?_
  refine wl_top (y := nI (12 * (q_tk (su u 6 3 (-1)) n 8))) (pk_mul 12 (q_tk (su u 6 3 (-1)) n 8)) ?_
  refine lv_istore_n (lv' := [(2, .int (nI (12 * (q_tk (su u 6 3 (-1)) n 8)))), (1, .int 0), (0, .ref (a 0))]) hx hb dX5_gapNow_14 rfl hl (by decide) rfl (fun ls hl => ?_)
  refine lv_iconst (v := 0) hx hb dX5_gapNow_15 (by decide) ?_
  refine lv_istore_n (lv' := [(3, .int 0), (2, .int (nI (12 * (q_tk (su u 6 3 (-1)) n 8)))), (1, .int 0), (0, .ref (a 0))]) hx hb dX5_gapNow_16 rfl hl (by decide) rfl (fun ls hl => ?_)
  suffices K2 : ∀ (n3 : Nat) (i : Nat) (C : Int32) (Y : Nat → Nat → Int32), 8 - i < n3 → (i ≤ 8) → (Y = q_gn (su u 6 3 (-1)) n i) → (C = q_gc (su u 6 3 (-1)) n i) → ∀ (ls : Array Slot) (H : Heap) (locs : List Loc), va_P D vwCl ([moW cy a Y] : List va_W).flatten H → va_D A ([moW cy a Y] : List va_W).flatten → va_S A s.heap H locs → lv_has ls 5 [(3, .int (nI i)), (2, .int (nI (12 * (q_tk (su u 6 3 (-1)) n 8)))), (1, .int C), (0, .ref (a 0))] → W p l e ({ frames := 5, cells := 0, slots := 0, locals := 111 } : Room) s m ([.ref (a 0)] : List Value).toArray below meth c H locs 0 0 (MQ below (va_Qi (fun (r : Int32) (bs : List va_W) => r = q_gc (su u 6 3 (-1)) n 8 ∧ bs = [moW cy a (q_gq u n)]) (wl_ib D [moW cy a u] sz) (va_A ([moW cy a u] : List va_W).flatten sz)) ([.ref (a 0)] : List Value).toArray s 0 0 (va_A ([moW cy a u] : List va_W).flatten sz)) (F0 m 17 ls []) from K2 9 0 0 (su u 6 3 (-1)) (by omega) (by omega) rfl rfl _ _ _ hP hD hS (lv_sub hl [0, 1, 2, 3] rfl)
  intro n3
  induction n3 with
  | zero => intro i C Y hm; exact absurd hm (Nat.not_lt_zero _)
  | succ n3 ih4 =>
    intro i C Y hm hi hW hC ls H locs hP hD hS hl
    refine lv_iload_n hx hb dX5_gapNow_17 rfl (lv_at hl 0 rfl) ?_
    refine lv_bipush (v := 8) hx hb dX5_gapNow_18 (by decide) ?_
    refine wl_icmp_ge (tgt := 109) hx hb i 8 dX5_gapNow_20 (by decide) (by omega) (by omega) (fun c5 => ?_) (fun c5 => ?_)
    · obtain rfl : i = 8 := by omega
      refine lv_aload_n hx hb dX5_gapNow_109 rfl (lv_at hl 3 rfl) ?_
      refine wl_getf (C := RX5) (T := TX5) (N := 13) (ci := 5) (v := .ref (a 1)) hx hb hts in_X5 hown hK hP 0 0 rfl rfl rfl 0 (by decide) lkf7 rfl rfl dX5_gapNow_110 ?_
      refine lv_bipush (v := 43) hx hb dX5_gapNow_113 (by decide) ?_
      refine lv_dup2_11 hx hb dX5_gapNow_115 rfl rfl ?_
      refine wl_iald hx hb hK hP 0 1 rfl rfl 43 (by omega) (Nat.le_of_ble_eq_true rfl) dX5_gapNow_116 ?_
      refine wl_top (y := zv Y 7 1) rfl ?_
      refine lv_iconst (v := 1) hx hb dX5_gapNow_117 (by decide) ?_
      refine lv_iadd hx hb dX5_gapNow_118 ?_
      refine wl_iast hx hb hK hP hD hS 0 1 rfl rfl 43 (by omega) (Nat.le_of_ble_eq_true rfl) dX5_gapNow_119 (fun H locs hP hD hS => ?_)
      have hP : va_P D vwCl ([moW cy a (su Y 0 43 ((zv Y 7 1) + 1))] : List va_W).flatten H := hP
      have hD : va_D A ([moW cy a (su Y 0 43 ((zv Y 7 1) + 1))] : List va_W).flatten := hD
      refine lv_aload_n hx hb dX5_gapNow_120 rfl (lv_at hl 3 rfl) ?_
      refine wl_getf (C := RX5) (T := TX5) (N := 13) (ci := 5) (v := .ref (a 1)) hx hb hts in_X5 hown hK hP 0 0 rfl rfl rfl 0 (by decide) lkf7 rfl rfl dX5_gapNow_121 ?_
      refine lv_bipush (v := 45) hx hb dX5_gapNow_124 (by decide) ?_
      refine lv_dup2_11 hx hb dX5_gapNow_126 rfl rfl ?_
      refine wl_iald hx hb hK hP 0 1 rfl rfl 45 (by omega) (Nat.le_of_ble_eq_true rfl) dX5_gapNow_127 ?_
      refine wl_top (y := zv (su Y 0 43 ((zv Y 7 1) + 1)) 7 2) rfl ?_
      refine lv_iload_n hx hb dX5_gapNow_128 rfl (lv_at hl 1 rfl) ?_
      refine lv_iadd hx hb dX5_gapNow_129 ?_
      refine wl_iast hx hb hK hP hD hS 0 1 rfl rfl 45 (by omega) (Nat.le_of_ble_eq_true rfl) dX5_gapNow_130 (fun H locs hP hD hS => ?_)
      have hP : va_P D vwCl ([moW cy a (su (su Y 0 43 ((zv Y 7 1) + 1)) 0 45 ((zv (su Y 0 43 ((zv Y 7 1) + 1)) 7 2) + (nI (12 * (q_tk (su u 6 3 (-1)) n 8)))))] : List va_W).flatten H := hP
      have hD : va_D A ([moW cy a (su (su Y 0 43 ((zv Y 7 1) + 1)) 0 45 ((zv (su Y 0 43 ((zv Y 7 1) + 1)) 7 2) + (nI (12 * (q_tk (su u 6 3 (-1)) n 8)))))] : List va_W).flatten := hD
      refine lv_aload_n hx hb dX5_gapNow_131 rfl (lv_at hl 3 rfl) ?_
      refine wl_getf (C := RX5) (T := TX5) (N := 13) (ci := 5) (v := .ref (a 1)) hx hb hts in_X5 hown hK hP 0 0 rfl rfl rfl 0 (by decide) lkf7 rfl rfl dX5_gapNow_132 ?_
      refine lv_bipush (v := 46) hx hb dX5_gapNow_135 (by decide) ?_
      refine lv_dup2_11 hx hb dX5_gapNow_137 rfl rfl ?_
      refine wl_iald hx hb hK hP 0 1 rfl rfl 46 (by omega) (Nat.le_of_ble_eq_true rfl) dX5_gapNow_138 ?_
      refine wl_top (y := zv (su (su Y 0 43 ((zv Y 7 1) + 1)) 0 45 ((zv (su Y 0 43 ((zv Y 7 1) + 1)) 7 2) + (nI (12 * (q_tk (su u 6 3 (-1)) n 8))))) 7 3) rfl ?_
      refine lv_aload_n hx hb dX5_gapNow_139 rfl (lv_at hl 3 rfl) ?_
      refine wl_getf (C := RX5) (T := TX5) (N := 13) (ci := 5) (v := .ref (a 1)) hx hb hts in_X5 hown hK hP 0 0 rfl rfl rfl 0 (by decide) lkf7 rfl rfl dX5_gapNow_140 ?_
      refine lv_bipush (v := 49) hx hb dX5_gapNow_143 (by decide) ?_
      refine wl_iald hx hb hK hP 0 1 rfl rfl 49 (by omega) (Nat.le_of_ble_eq_true rfl) dX5_gapNow_145 ?_
      refine wl_top (y := zv (su (su Y 0 43 ((zv Y 7 1) + 1)) 0 45 ((zv (su Y 0 43 ((zv Y 7 1) + 1)) 7 2) + (nI (12 * (q_tk (su u 6 3 (-1)) n 8))))) 7 0) rfl ?_
      refine lv_iload_n hx hb dX5_gapNow_146 rfl (lv_at hl 1 rfl) ?_
      refine lv_isub hx hb dX5_gapNow_147 ?_
      refine lv_iadd hx hb dX5_gapNow_148 ?_
      refine wl_iast hx hb hK hP hD hS 0 1 rfl rfl 46 (by omega) (Nat.le_of_ble_eq_true rfl) dX5_gapNow_149 (fun H locs hP hD hS => ?_)
      have hP : va_P D vwCl ([moW cy a (su (su (su Y 0 43 ((zv Y 7 1) + 1)) 0 45 ((zv (su Y 0 43 ((zv Y 7 1) + 1)) 7 2) + (nI (12 * (q_tk (su u 6 3 (-1)) n 8))))) 0 46 ((zv (su (su Y 0 43 ((zv Y 7 1) + 1)) 0 45 ((zv (su Y 0 43 ((zv Y 7 1) + 1)) 7 2) + (nI (12 * (q_tk (su u 6 3 (-1)) n 8))))) 7 3) + ((zv (su (su Y 0 43 ((zv Y 7 1) + 1)) 0 45 ((zv (su Y 0 43 ((zv Y 7 1) + 1)) 7 2) + (nI (12 * (q_tk (su u 6 3 (-1)) n 8))))) 7 0) - (nI (12 * (q_tk (su u 6 3 (-1)) n 8))))))] : List va_W).flatten H := hP
      have hD : va_D A ([moW cy a (su (su (su Y 0 43 ((zv Y 7 1) + 1)) 0 45 ((zv (su Y 0 43 ((zv Y 7 1) + 1)) 7 2) + (nI (12 * (q_tk (su u 6 3 (-1)) n 8))))) 0 46 ((zv (su (su Y 0 43 ((zv Y 7 1) + 1)) 0 45 ((zv (su Y 0 43 ((zv Y 7 1) + 1)) 7 2) + (nI (12 * (q_tk (su u 6 3 (-1)) n 8))))) 7 3) + ((zv (su (su Y 0 43 ((zv Y 7 1) + 1)) 0 45 ((zv (su Y 0 43 ((zv Y 7 1) + 1)) 7 2) + (nI (12 * (q_tk (su u 6 3 (-1)) n 8))))) 7 0) - (nI (12 * (q_tk (su u 6 3 (-1)) n 8))))))] : List va_W).flatten := hD
      refine lv_aload_n hx hb dX5_gapNow_150 rfl (lv_at hl 3 rfl) ?_
      refine wl_iVv (As := []) (rest := []) (bsC := [moW cy a (su (su (su Y 0 43 ((zv Y 7 1) + 1)) 0 45 ((zv (su Y 0 43 ((zv Y 7 1) + 1)) 7 2) + (nI (12 * (q_tk (su u 6 3 (-1)) n 8))))) 0 46 ((zv (su (su Y 0 43 ((zv Y 7 1) + 1)) 0 45 ((zv (su Y 0 43 ((zv Y 7 1) + 1)) 7 2) + (nI (12 * (q_tk (su u 6 3 (-1)) n 8))))) 7 3) + ((zv (su (su Y 0 43 ((zv Y 7 1) + 1)) 0 45 ((zv (su Y 0 43 ((zv Y 7 1) + 1)) 7 2) + (nI (12 * (q_tk (su u 6 3 (-1)) n 8))))) 7 0) - (nI (12 * (q_tk (su u 6 3 (-1)) n 8))))))]) (bsR := []) ⟨hx, hb, hml, hown, hts⟩ (m_X5_emptyFrame l D cy a (su (su (su Y 0 43 ((zv Y 7 1) + 1)) 0 45 ((zv (su Y 0 43 ((zv Y 7 1) + 1)) 7 2) + (nI (12 * (q_tk (su u 6 3 (-1)) n 8))))) 0 46 ((zv (su (su Y 0 43 ((zv Y 7 1) + 1)) 0 45 ((zv (su Y 0 43 ((zv Y 7 1) + 1)) 7 2) + (nI (12 * (q_tk (su u 6 3 (-1)) n 8))))) 7 3) + ((zv (su (su Y 0 43 ((zv Y 7 1) + 1)) 0 45 ((zv (su Y 0 43 ((zv Y 7 1) + 1)) 7 2) + (nI (12 * (q_tk (su u 6 3 (-1)) n 8))))) 7 0) - (nI (12 * (q_tk (su u 6 3 (-1)) n 8)))))) H.size ) (cwV 0 hts gX5_gapNow_X5_emptyFrame rfl rfl rfl (by decide +kernel) ⟨Nat.le_of_ble_eq_true rfl, Nat.le_of_ble_eq_true rfl⟩) wl_xT (fun _ _ _ => trivial) hK hP hD hS hA rfl rfl rfl rfl rfl hl.1 rfl (Nat.le_of_ble_eq_true rfl) dX5_gapNow_151 ⟨Nat.le_of_ble_eq_true rfl, Nat.le_of_ble_eq_true rfl⟩ (fun bs6 H locs e7 _ _ hP hD hS => ?_)
      have e7 : bs6 = [moW cy a (q_emf (su (su (su Y 0 43 ((zv Y 7 1) + 1)) 0 45 ((zv (su Y 0 43 ((zv Y 7 1) + 1)) 7 2) + (nI (12 * (q_tk (su u 6 3 (-1)) n 8))))) 0 46 ((zv (su (su Y 0 43 ((zv Y 7 1) + 1)) 0 45 ((zv (su Y 0 43 ((zv Y 7 1) + 1)) 7 2) + (nI (12 * (q_tk (su u 6 3 (-1)) n 8))))) 7 3) + ((zv (su (su Y 0 43 ((zv Y 7 1) + 1)) 0 45 ((zv (su Y 0 43 ((zv Y 7 1) + 1)) 7 2) + (nI (12 * (q_tk (su u 6 3 (-1)) n 8))))) 7 0) - (nI (12 * (q_tk (su u 6 3 (-1)) n 8)))))))] := e7
      subst e7
      have hP : va_P D vwCl ([moW cy a (q_emf (su (su (su Y 0 43 ((zv Y 7 1) + 1)) 0 45 ((zv (su Y 0 43 ((zv Y 7 1) + 1)) 7 2) + (nI (12 * (q_tk (su u 6 3 (-1)) n 8))))) 0 46 ((zv (su (su Y 0 43 ((zv Y 7 1) + 1)) 0 45 ((zv (su Y 0 43 ((zv Y 7 1) + 1)) 7 2) + (nI (12 * (q_tk (su u 6 3 (-1)) n 8))))) 7 3) + ((zv (su (su Y 0 43 ((zv Y 7 1) + 1)) 0 45 ((zv (su Y 0 43 ((zv Y 7 1) + 1)) 7 2) + (nI (12 * (q_tk (su u 6 3 (-1)) n 8))))) 7 0) - (nI (12 * (q_tk (su u 6 3 (-1)) n 8)))))))] : List va_W).flatten H := hP
      have hD : va_D A ([moW cy a (q_emf (su (su (su Y 0 43 ((zv Y 7 1) + 1)) 0 45 ((zv (su Y 0 43 ((zv Y 7 1) + 1)) 7 2) + (nI (12 * (q_tk (su u 6 3 (-1)) n 8))))) 0 46 ((zv (su (su Y 0 43 ((zv Y 7 1) + 1)) 0 45 ((zv (su Y 0 43 ((zv Y 7 1) + 1)) 7 2) + (nI (12 * (q_tk (su u 6 3 (-1)) n 8))))) 7 3) + ((zv (su (su Y 0 43 ((zv Y 7 1) + 1)) 0 45 ((zv (su Y 0 43 ((zv Y 7 1) + 1)) 7 2) + (nI (12 * (q_tk (su u 6 3 (-1)) n 8))))) 7 0) - (nI (12 * (q_tk (su u 6 3 (-1)) n 8)))))))] : List va_W).flatten := hD
      refine lv_iload_n hx hb dX5_gapNow_154 rfl (lv_at hl 2 rfl) ?_
      exact wl_Ri (bs := [moW cy a (q_emf (su (su (su Y 0 43 ((zv Y 7 1) + 1)) 0 45 ((zv (su Y 0 43 ((zv Y 7 1) + 1)) 7 2) + (nI (12 * (q_tk (su u 6 3 (-1)) n 8))))) 0 46 ((zv (su (su Y 0 43 ((zv Y 7 1) + 1)) 0 45 ((zv (su Y 0 43 ((zv Y 7 1) + 1)) 7 2) + (nI (12 * (q_tk (su u 6 3 (-1)) n 8))))) 7 3) + ((zv (su (su Y 0 43 ((zv Y 7 1) + 1)) 0 45 ((zv (su Y 0 43 ((zv Y 7 1) + 1)) 7 2) + (nI (12 * (q_tk (su u 6 3 (-1)) n 8))))) 7 0) - (nI (12 * (q_tk (su u 6 3 (-1)) n 8)))))))]) (r := C) hx hb hr hlocks hAe hP hD hS (by subst hC; subst hW; exact ⟨rfl, rfl⟩) dX5_gapNow_155
    · have hPY : q_pl Y n := by subst hW; exact Or.inl ⟨(q_gn_inv _ n i hi).1, (q_gn_inv _ n i hi).2.trans hn⟩
      refine lv_aload_n hx hb dX5_gapNow_23 rfl (lv_at hl 3 rfl) ?_
      refine lv_iload_n hx hb dX5_gapNow_24 rfl (lv_at hl 0 rfl) ?_
      refine wl_pV (As := [.int (nI i)]) (rest := []) ⟨hx, hb, hml, hown, hts⟩ (m_X5_wordBehind l D cy a Y i n (by omega) hPY (by omega)) (cwV 1 hts gX5_gapNow_X5_wordBehind rfl rfl rfl (by decide +kernel) ⟨Nat.le_of_ble_eq_true rfl, Nat.le_of_ble_eq_true rfl⟩) hK hP [0] rfl rfl rfl rfl rfl rfl hl.1 rfl (Nat.le_of_ble_eq_true rfl) dX5_gapNow_25 ⟨Nat.le_of_ble_eq_true rfl, Nat.le_of_ble_eq_true rfl⟩ (fun r8 er8 => ?_)
      have er8 : r8 = q_wb Y n i := er8
      subst er8
      refine lv_istore (lv' := [(4, .int (q_wb Y n i)), (3, .int (nI i)), (2, .int (nI (12 * (q_tk (su u 6 3 (-1)) n 8)))), (1, .int C), (0, .ref (a 0))]) hx hb dX5_gapNow_28 hl (by decide) rfl (fun ls hl => ?_)
      refine lv_iload_n hx hb dX5_gapNow_30 rfl (lv_at hl 3 rfl) ?_
      refine lv_iload hx hb dX5_gapNow_31 (lv_at hl 0 rfl) ?_
      refine lv_aload_n hx hb dX5_gapNow_33 rfl (lv_at hl 4 rfl) ?_
      refine wl_getf (C := RX5) (T := TX5) (N := 13) (ci := 5) (v := .ref (a 1)) hx hb hts in_X5 hown hK hP 0 0 rfl rfl rfl 0 (by decide) lkf7 rfl rfl dX5_gapNow_34 ?_
      refine lv_bipush (v := 16) hx hb dX5_gapNow_37 (by decide) ?_
      refine lv_iload_n hx hb dX5_gapNow_39 rfl (lv_at hl 1 rfl) ?_
      refine lv_iadd hx hb dX5_gapNow_40 ?_
      refine wl_top (y := nI (16 + i)) (nI_add 16 i) ?_
      refine wl_iald hx hb hK hP 0 1 rfl rfl (16 + i) (by omega) (Nat.le_of_ble_eq_true rfl) dX5_gapNow_41 ?_
      refine wl_top (y := zv Y 2 i) rfl ?_
      have K11 : ∀ (ls : Array Slot) (H : Heap) (locs : List Loc) (v10 : Int32), v10 = (if (q_wb Y n i) = (zv Y 2 i) then 0 else 1) → va_P D vwCl ([moW cy a Y] : List va_W).flatten H → va_D A ([moW cy a Y] : List va_W).flatten → va_S A s.heap H locs → lv_has ls 5 [(4, .int (q_wb Y n i)), (3, .int (nI i)), (2, .int (nI (12 * (q_tk (su u 6 3 (-1)) n 8)))), (0, .ref (a 0))] → W p l e ({ frames := 5, cells := 0, slots := 0, locals := 111 } : Room) s m ([.ref (a 0)] : List Value).toArray below meth c H locs 0 0 (MQ below (va_Qi (fun (r : Int32) (bs : List va_W) => r = q_gc (su u 6 3 (-1)) n 8 ∧ bs = [moW cy a (q_gq u n)]) (wl_ib D [moW cy a u] sz) (va_A ([moW cy a u] : List va_W).flatten sz)) ([.ref (a 0)] : List Value).toArray s 0 0 (va_A ([moW cy a u] : List va_W).flatten sz)) (F0 m 50 ls [.int v10, .int C]) := by
        intro ls H locs v10 ev10 hP hD hS hl
        refine lv_iadd hx hb dX5_gapNow_50 ?_
        refine lv_istore_n (lv' := [(1, .int (C + v10)), (4, .int (q_wb Y n i)), (3, .int (nI i)), (2, .int (nI (12 * (q_tk (su u 6 3 (-1)) n 8)))), (0, .ref (a 0))]) hx hb dX5_gapNow_51 rfl hl (by decide) rfl (fun ls hl => ?_)
        refine lv_aload_n hx hb dX5_gapNow_52 rfl (lv_at hl 4 rfl) ?_
        refine wl_getf (C := RX5) (T := TX5) (N := 13) (ci := 5) (v := .ref (a 1)) hx hb hts in_X5 hown hK hP 0 0 rfl rfl rfl 0 (by decide) lkf7 rfl rfl dX5_gapNow_53 ?_
        refine lv_bipush (v := 32) hx hb dX5_gapNow_56 (by decide) ?_
        refine lv_iload_n hx hb dX5_gapNow_58 rfl (lv_at hl 2 rfl) ?_
        refine lv_iadd hx hb dX5_gapNow_59 ?_
        refine wl_top (y := nI (32 + i)) (nI_add 32 i) ?_
        refine lv_aload_n hx hb dX5_gapNow_60 rfl (lv_at hl 4 rfl) ?_
        refine lv_iload_n hx hb dX5_gapNow_61 rfl (lv_at hl 2 rfl) ?_
        refine wl_pV (As := [.int (nI i)]) (rest := [.int (nI (32 + i)), .ref (a 1)]) ⟨hx, hb, hml, hown, hts⟩ (m_X5_comes l D cy a Y i n (by omega) hPY (by omega)) (cwV 1 hts gX5_gapNow_X5_comes rfl rfl rfl (by decide +kernel) ⟨Nat.le_of_ble_eq_true rfl, Nat.le_of_ble_eq_true rfl⟩) hK hP [0] rfl rfl rfl rfl rfl rfl hl.1 rfl (Nat.le_of_ble_eq_true rfl) dX5_gapNow_62 ⟨Nat.le_of_ble_eq_true rfl, Nat.le_of_ble_eq_true rfl⟩ (fun r12 er12 => ?_)
        have er12 : r12 = nI (q_cm Y n i) := er12
        subst er12
        refine wl_iast hx hb hK hP hD hS 0 1 rfl rfl (32 + i) (by omega) (Nat.le_of_ble_eq_true rfl) dX5_gapNow_65 (fun H locs hP hD hS => ?_)
        have hP : va_P D vwCl ([moW cy a (su Y 0 (32 + i) (nI (q_cm Y n i)))] : List va_W).flatten H := hP
        have hD : va_D A ([moW cy a (su Y 0 (32 + i) (nI (q_cm Y n i)))] : List va_W).flatten := hD
        refine lv_aload_n hx hb dX5_gapNow_66 rfl (lv_at hl 4 rfl) ?_
        refine wl_getf (C := RX5) (T := TX5) (N := 13) (ci := 5) (v := .ref (a 1)) hx hb hts in_X5 hown hK hP 0 0 rfl rfl rfl 0 (by decide) lkf7 rfl rfl dX5_gapNow_67 ?_
        refine lv_bipush (v := 16) hx hb dX5_gapNow_70 (by decide) ?_
        refine lv_iload_n hx hb dX5_gapNow_72 rfl (lv_at hl 2 rfl) ?_
        refine lv_iadd hx hb dX5_gapNow_73 ?_
        refine wl_top (y := nI (16 + i)) (nI_add 16 i) ?_
        refine lv_iload hx hb dX5_gapNow_74 (lv_at hl 1 rfl) ?_
        refine wl_iast hx hb hK hP hD hS 0 1 rfl rfl (16 + i) (by omega) (Nat.le_of_ble_eq_true rfl) dX5_gapNow_76 (fun H locs hP hD hS => ?_)
        have hP : va_P D vwCl ([moW cy a (su (su Y 0 (32 + i) (nI (q_cm Y n i))) 0 (16 + i) (q_wb Y n i))] : List va_W).flatten H := hP
        have hD : va_D A ([moW cy a (su (su Y 0 (32 + i) (nI (q_cm Y n i))) 0 (16 + i) (q_wb Y n i))] : List va_W).flatten := hD
        refine lv_aload_n hx hb dX5_gapNow_77 rfl (lv_at hl 4 rfl) ?_
        refine wl_getf (C := RX5) (T := TX5) (N := 13) (ci := 5) (v := .ref (a 1)) hx hb hts in_X5 hown hK hP 0 0 rfl rfl rfl 0 (by decide) lkf7 rfl rfl dX5_gapNow_78 ?_
        refine lv_bipush (v := 24) hx hb dX5_gapNow_81 (by decide) ?_
        refine lv_iload_n hx hb dX5_gapNow_83 rfl (lv_at hl 2 rfl) ?_
        refine lv_iadd hx hb dX5_gapNow_84 ?_
        refine wl_top (y := nI (24 + i)) (nI_add 24 i) ?_
        refine lv_aload_n hx hb dX5_gapNow_85 rfl (lv_at hl 4 rfl) ?_
        refine wl_getf (C := RX5) (T := TX5) (N := 13) (ci := 5) (v := .ref (a 1)) hx hb hts in_X5 hown hK hP 0 0 rfl rfl rfl 0 (by decide) lkf7 rfl rfl dX5_gapNow_86 ?_
        refine lv_iconst (v := 0) hx hb dX5_gapNow_89 (by decide) ?_
        refine lv_iload_n hx hb dX5_gapNow_90 rfl (lv_at hl 2 rfl) ?_
        refine lv_iadd hx hb dX5_gapNow_91 ?_
        refine wl_top (y := nI (0 + i)) (nI_add 0 i) ?_
        refine wl_iald hx hb hK hP 0 1 rfl rfl (0 + i) (by omega) (Nat.le_of_ble_eq_true rfl) dX5_gapNow_92 ?_
        refine wl_top (y := zv (su (su Y 0 (32 + i) (nI (q_cm Y n i))) 0 (16 + i) (q_wb Y n i)) 0 i) rfl ?_
        have K15 : ∀ (ls : Array Slot) (H : Heap) (locs : List Loc) (v14 : Int32), v14 = (if (zv (su (su Y 0 (32 + i) (nI (q_cm Y n i))) 0 (16 + i) (q_wb Y n i)) 0 i) = 0 then (q_wb Y n i) else 0) → va_P D vwCl ([moW cy a (su (su Y 0 (32 + i) (nI (q_cm Y n i))) 0 (16 + i) (q_wb Y n i))] : List va_W).flatten H → va_D A ([moW cy a (su (su Y 0 (32 + i) (nI (q_cm Y n i))) 0 (16 + i) (q_wb Y n i))] : List va_W).flatten → va_S A s.heap H locs → lv_has ls 5 [(1, .int (C + v10)), (3, .int (nI i)), (2, .int (nI (12 * (q_tk (su u 6 3 (-1)) n 8)))), (0, .ref (a 0))] → W p l e ({ frames := 5, cells := 0, slots := 0, locals := 111 } : Room) s m ([.ref (a 0)] : List Value).toArray below meth c H locs 0 0 (MQ below (va_Qi (fun (r : Int32) (bs : List va_W) => r = q_gc (su u 6 3 (-1)) n 8 ∧ bs = [moW cy a (q_gq u n)]) (wl_ib D [moW cy a u] sz) (va_A ([moW cy a u] : List va_W).flatten sz)) ([.ref (a 0)] : List Value).toArray s 0 0 (va_A ([moW cy a u] : List va_W).flatten sz)) (F0 m 102 ls [.int v14, .int (nI (24 + i)), .ref (a 1)]) := by
          intro ls H locs v14 ev14 hP hD hS hl
          refine wl_iast hx hb hK hP hD hS 0 1 rfl rfl (24 + i) (by omega) (Nat.le_of_ble_eq_true rfl) dX5_gapNow_102 (fun H locs hP hD hS => ?_)
          have hP : va_P D vwCl ([moW cy a (su (su (su Y 0 (32 + i) (nI (q_cm Y n i))) 0 (16 + i) (q_wb Y n i)) 0 (24 + i) v14)] : List va_W).flatten H := hP
          have hD : va_D A ([moW cy a (su (su (su Y 0 (32 + i) (nI (q_cm Y n i))) 0 (16 + i) (q_wb Y n i)) 0 (24 + i) v14)] : List va_W).flatten := hD
          refine lv_iinc (v := nI (i + 1)) (lv' := [(3, .int (nI (i + 1))), (1, .int (C + v10)), (2, .int (nI (12 * (q_tk (su u 6 3 (-1)) n 8)))), (0, .ref (a 0))]) hx hb dX5_gapNow_103 hl (k := 1) rfl (wl_inc i) (by decide) rfl (fun ls hl => ?_)
          refine lv_goto (tgt := 17) hx hb dX5_gapNow_106 (by decide) ?_
          subst ev10 ev14
          exact ih4 (i + 1) (C + (if (q_wb Y n i) = (zv Y 2 i) then 0 else 1)) (su (su (su Y 0 (32 + i) (nI (q_cm Y n i))) 0 (16 + i) (q_wb Y n i)) 0 (24 + i) (if (zv (su (su Y 0 (32 + i) (nI (q_cm Y n i))) 0 (16 + i) (q_wb Y n i)) 0 i) = 0 then (q_wb Y n i) else 0)) (by omega) (by omega) (by rw [hW]; rfl) (by rw [hC, hW]; rfl) _ _ _ hP hD hS (lv_sub hl [0, 2, 1, 3] rfl)
        refine lv_if_ne (tgt := 101) hx hb dX5_gapNow_93 (by decide) (fun c13 => ?_) (fun c13 => ?_)
        · refine lv_iconst (v := 0) hx hb dX5_gapNow_101 (by decide) ?_
          exact K15 _ _ _ 0 (by rw [if_neg c13]) hP hD hS (lv_sub hl [0, 2, 3, 4] rfl)
        · refine lv_iload hx hb dX5_gapNow_96 (lv_at hl 1 rfl) ?_
          refine lv_goto (tgt := 102) hx hb dX5_gapNow_98 (by decide) ?_
          exact K15 _ _ _ (q_wb Y n i) (by rw [if_pos c13]) hP hD hS (lv_sub hl [0, 2, 3, 4] rfl)
      refine lv_icmp_ne (tgt := 49) hx hb dX5_gapNow_42 (by decide) (fun c9 => ?_) (fun c9 => ?_)
      · refine lv_iconst (v := 1) hx hb dX5_gapNow_49 (by decide) ?_
        exact K11 _ _ _ 1 (by rw [if_neg c9]) hP hD hS (lv_sub hl [0, 1, 2, 4] rfl)
      · refine lv_iconst (v := 0) hx hb dX5_gapNow_45 (by decide) ?_
        refine lv_goto (tgt := 50) hx hb dX5_gapNow_46 (by decide) ?_
        exact K11 _ _ _ 0 (by rw [if_pos c9]) hP hD hS (lv_sub hl [0, 1, 2, 4] rfl)
