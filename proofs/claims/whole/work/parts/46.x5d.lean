/-! WireLampsModel: its calls -/
set_option maxHeartbeats 4000000 in
set_option maxRecDepth 100000 in
theorem m_X5_change (l : Launch) (D : va_G) (cy : Nat → ClassId) (a : Nat → Nat) (u : Nat → Nat → Int32) (y : Int32) (f b : Nat) (sz : Nat) (hf : f < 170) (hsv : u 6 0 = nI b) (hsv2 : b ≤ 6) : Met l yX5_change wsX5_change ({ frames := 2, cells := 0, slots := 0, locals := 45 } : Room) (wl_ic D cy (fun _ => True) [moW cy a u] sz [.ref (a 0), .int (nI f), .int y]) (va_Qi (fun (r : Int32) (bs : List va_W) => r = u 0 f ∧ bs = [moW cy a (su (q_sv u b) 0 f y)]) (wl_ib D [moW cy a u] sz) (va_A ([moW cy a u] : List va_W).flatten sz)) 0 0 (va_A ([moW cy a u] : List va_W).flatten sz) := by
  refine wl_ofI (cc := cX5_change) (maxL := 4) (ret := (some .int)) (by decide) rfl (Nat.le_of_ble_eq_true rfl) ?_
  intro p e s m below meth c ls A hx hb hr hts hown hlocks hml hnm hsz hAe hP hK hD hX hA hS hl
  have hl : lv_has ls 4 [(0, .ref (a 0)), (1, .int (nI f)), (2, .int y)] := hl
  have lkf7 := hts (.fieldLink RX5 7 "WireLampsModel" "z" "[I") (by decide +kernel)
  have in_X5 : ∀ w ∈ u_ws RX5 TX5 13, w ∈ wsX5_change := by decide +kernel
  refine lv_aload_n hx hb dX5_change_0 rfl (lv_at hl 0 rfl) ?_
  refine wl_iVv (As := []) (rest := []) (bsC := [moW cy a u]) (bsR := []) ⟨hx, hb, hml, hown, hts⟩ (m_X5_saveState l D cy a u b s.heap.size hsv (by omega)) (cwV 0 hts gX5_change_X5_saveState rfl rfl rfl (by decide +kernel) ⟨Nat.le_of_ble_eq_true rfl, Nat.le_of_ble_eq_true rfl⟩) wl_xT (fun _ _ _ => trivial) hK hP hD hS hA rfl rfl rfl rfl rfl hl.1 rfl (Nat.le_of_ble_eq_true rfl) dX5_change_1 ⟨Nat.le_of_ble_eq_true rfl, Nat.le_of_ble_eq_true rfl⟩ (fun bs1 H locs e2 _ _ hP hD hS => ?_)
  have e2 : bs1 = [moW cy a (q_sv u b)] := e2
  subst e2
  have hP : va_P D vwCl ([moW cy a (q_sv u b)] : List va_W).flatten H := hP
  have hD : va_D A ([moW cy a (q_sv u b)] : List va_W).flatten := hD
  refine lv_aload_n hx hb dX5_change_4 rfl (lv_at hl 0 rfl) ?_
  refine wl_getf (C := RX5) (T := TX5) (N := 13) (ci := 5) (v := .ref (a 1)) hx hb hts in_X5 hown hK hP 0 0 rfl rfl rfl 0 (by decide) lkf7 rfl rfl dX5_change_5 ?_
  refine lv_iload_n hx hb dX5_change_8 rfl (lv_at hl 1 rfl) ?_
  refine wl_iald hx hb hK hP 0 1 rfl rfl f (by omega) (Nat.le_of_ble_eq_true rfl) dX5_change_9 ?_
  refine wl_top (y := u 0 f) rfl ?_
  refine lv_istore_n (lv' := [(3, .int (u 0 f)), (0, .ref (a 0)), (1, .int (nI f)), (2, .int y)]) hx hb dX5_change_10 rfl hl (by decide) rfl (fun ls hl => ?_)
  refine lv_aload_n hx hb dX5_change_11 rfl (lv_at hl 1 rfl) ?_
  refine wl_getf (C := RX5) (T := TX5) (N := 13) (ci := 5) (v := .ref (a 1)) hx hb hts in_X5 hown hK hP 0 0 rfl rfl rfl 0 (by decide) lkf7 rfl rfl dX5_change_12 ?_
  refine lv_iload_n hx hb dX5_change_15 rfl (lv_at hl 2 rfl) ?_
  refine lv_iload_n hx hb dX5_change_16 rfl (lv_at hl 3 rfl) ?_
  refine wl_iast hx hb hK hP hD hS 0 1 rfl rfl f (by omega) (Nat.le_of_ble_eq_true rfl) dX5_change_17 (fun H locs hP hD hS => ?_)
  have hP : va_P D vwCl ([moW cy a (su (q_sv u b) 0 f y)] : List va_W).flatten H := hP
  have hD : va_D A ([moW cy a (su (q_sv u b) 0 f y)] : List va_W).flatten := hD
  refine lv_iload_n hx hb dX5_change_18 rfl (lv_at hl 0 rfl) ?_
  exact wl_Ri (bs := [moW cy a (su (q_sv u b) 0 f y)]) (r := (u 0 f)) hx hb hr hlocks hAe hP hD hS (by exact ⟨rfl, rfl⟩) dX5_change_19
set_option maxHeartbeats 4000000 in
set_option maxRecDepth 100000 in
theorem r_X5_mode (l : Launch) (D : va_G) (cy : Nat → ClassId) (a : Nat → Nat) (u : Nat → Nat → Int32) (i k b : Nat) (sz : Nat) (hi : i < 8) (hk : k ≤ 3) (hsv : u 6 0 = nI b) (hsv2 : b ≤ 6) : Met l yX5_mode wsX5_mode ({ frames := 3, cells := 0, slots := 0, locals := 68 } : Room) (wl_ic D cy (fun _ => True) [moW cy a u] sz [.ref (a 0), .int (nI i), .int (nI k)]) (va_Qi (fun (r : Int32) (bs : List va_W) => r = u 0 (0 + i) ∧ bs = [moW cy a (su (q_sv (su u 6 2 (nI 0)) b) 0 (0 + i) (nI k))]) (wl_ib D [moW cy a u] sz) (va_A ([moW cy a u] : List va_W).flatten sz)) 0 0 (va_A ([moW cy a u] : List va_W).flatten sz) := by
  refine wl_ofI (cc := cX5_mode) (maxL := 3) (ret := (some .int)) (by decide) rfl (Nat.le_of_ble_eq_true rfl) ?_
  intro p e s m below meth c ls A hx hb hr hts hown hlocks hml hnm hsz hAe hP hK hD hX hA hS hl
  have hl : lv_has ls 3 [(0, .ref (a 0)), (1, .int (nI i)), (2, .int (nI k))] := hl
  refine lv_aload_n hx hb dX5_mode_0 rfl (lv_at hl 0 rfl) ?_
  refine lv_iload_n hx hb dX5_mode_1 rfl (lv_at hl 1 rfl) ?_
  refine wl_pS (As := [.int (nI i)]) (rest := [.ref (a 0)]) ⟨hx, hb, hml, hown, hts⟩ (m_X5_isLamp l D cy (nI i) ) (va_cwS 1 hts gX5_mode_X5_isLamp rfl rfl rfl (by decide +kernel) ⟨Nat.le_of_ble_eq_true rfl, Nat.le_of_ble_eq_true rfl⟩) hK hP [] rfl rfl hl.1 rfl (Nat.le_of_ble_eq_true rfl) dX5_mode_2 ⟨Nat.le_of_ble_eq_true rfl, Nat.le_of_ble_eq_true rfl⟩ (fun r1 er1 => ?_)
  have er1 : r1 = if (¬ (nI i) < 0 ∧ ¬ 7 < (nI i)) then 1 else 0 := er1
  refine wl_b_ne (tgt := 12) hx hb (¬ (nI i) < 0 ∧ ¬ 7 < (nI i)) er1 dX5_mode_5 (by decide) (fun c2 => ?_) (fun c2 => absurd (wl_rng3 (a := 0) (b := 7) rfl rfl (by omega) (by omega) (by decide)) c2)
  refine lv_iload_n hx hb dX5_mode_12 rfl (lv_at hl 2 rfl) ?_
  refine lv_iconst (v := 0) hx hb dX5_mode_13 (by decide) ?_
  refine lv_iconst (v := 3) hx hb dX5_mode_14 (by decide) ?_
  refine wl_pS (As := [.int (nI k), .int 0, .int 3]) (rest := [.ref (a 0)]) ⟨hx, hb, hml, hown, hts⟩ (m_X5_in l D cy (nI k) 0 3 ) (va_cwS 3 hts gX5_mode_X5_in rfl rfl rfl (by decide +kernel) ⟨Nat.le_of_ble_eq_true rfl, Nat.le_of_ble_eq_true rfl⟩) hK hP [] rfl rfl hl.1 rfl (Nat.le_of_ble_eq_true rfl) dX5_mode_15 ⟨Nat.le_of_ble_eq_true rfl, Nat.le_of_ble_eq_true rfl⟩ (fun r3 er3 => ?_)
  have er3 : r3 = if (¬ (nI k) < 0 ∧ ¬ 3 < (nI k)) then 1 else 0 := er3
  refine wl_b_eq (tgt := 25) hx hb (¬ (nI k) < 0 ∧ ¬ 3 < (nI k)) er3 dX5_mode_18 (by decide) (fun c4 => absurd (wl_rng3 (a := 0) (b := 3) rfl rfl (by omega) (by omega) (by decide)) c4) (fun c4 => ?_)
  refine lv_iconst (v := 0) hx hb dX5_mode_21 (by decide) ?_
  refine lv_goto (tgt := 26) hx hb dX5_mode_22 (by decide) ?_
  refine wl_iV (As := [.int 0]) (rest := []) (bsC := [moW cy a u]) (bsR := []) ⟨hx, hb, hml, hown, hts⟩ (m_X5_refused l D cy a u 0 s.heap.size (by omega)) (cwV 1 hts gX5_mode_X5_refused rfl rfl rfl (by decide +kernel) ⟨Nat.le_of_ble_eq_true rfl, Nat.le_of_ble_eq_true rfl⟩) wl_xT (fun _ _ _ => trivial) hK hP hD hS hA rfl rfl rfl rfl rfl hl.1 rfl (Nat.le_of_ble_eq_true rfl) dX5_mode_26 ⟨Nat.le_of_ble_eq_true rfl, Nat.le_of_ble_eq_true rfl⟩ (fun r5 bs6 H locs e7 _ _ hP hD hS => ?_)
  obtain ⟨er5, e7⟩ : r5 = (if (0 < 0) then 1 else 0) ∧ bs6 = [moW cy a (su u 6 2 (nI 0))] := e7
  subst e7
  have hP : va_P D vwCl ([moW cy a (su u 6 2 (nI 0))] : List va_W).flatten H := hP
  have hD : va_D A ([moW cy a (su u 6 2 (nI 0))] : List va_W).flatten := hD
  refine wl_b_eq (tgt := 36) hx hb (0 < 0) er5 dX5_mode_29 (by decide) (fun c8 => ?_) (fun c8 => absurd c8 (by decide))
  refine lv_aload_n hx hb dX5_mode_36 rfl (lv_at hl 0 rfl) ?_
  refine lv_iconst (v := 0) hx hb dX5_mode_37 (by decide) ?_
  refine lv_iload_n hx hb dX5_mode_38 rfl (lv_at hl 1 rfl) ?_
  refine lv_iadd hx hb dX5_mode_39 ?_
  refine wl_top (y := nI (0 + i)) (nI_add 0 i) ?_
  refine lv_iload_n hx hb dX5_mode_40 rfl (lv_at hl 2 rfl) ?_
  refine wl_iV (As := [.int (nI (0 + i)), .int (nI k)]) (rest := []) (bsC := [moW cy a (su u 6 2 (nI 0))]) (bsR := []) ⟨hx, hb, hml, hown, hts⟩ (m_X5_change l D cy a (su u 6 2 (nI 0)) (nI k) (0 + i) b H.size (by omega) hsv (by omega)) (cwV 2 hts gX5_mode_X5_change rfl rfl rfl (by decide +kernel) ⟨Nat.le_of_ble_eq_true rfl, Nat.le_of_ble_eq_true rfl⟩) wl_xT (fun _ _ _ => trivial) hK hP hD hS hA rfl rfl rfl rfl rfl hl.1 rfl (Nat.le_of_ble_eq_true rfl) dX5_mode_41 ⟨Nat.le_of_ble_eq_true rfl, Nat.le_of_ble_eq_true rfl⟩ (fun r9 bs10 H locs e11 _ _ hP hD hS => ?_)
  obtain ⟨er9, e11⟩ : r9 = (su u 6 2 (nI 0)) 0 (0 + i) ∧ bs10 = [moW cy a (su (q_sv (su u 6 2 (nI 0)) b) 0 (0 + i) (nI k))] := e11
  subst e11
  subst er9
  have hP : va_P D vwCl ([moW cy a (su (q_sv (su u 6 2 (nI 0)) b) 0 (0 + i) (nI k))] : List va_W).flatten H := hP
  have hD : va_D A ([moW cy a (su (q_sv (su u 6 2 (nI 0)) b) 0 (0 + i) (nI k))] : List va_W).flatten := hD
  exact wl_Ri (bs := [moW cy a (su (q_sv (su u 6 2 (nI 0)) b) 0 (0 + i) (nI k))]) (r := ((su u 6 2 (nI 0)) 0 (0 + i))) hx hb hr hlocks hAe hP hD hS (by exact ⟨rfl, rfl⟩) dX5_mode_44
set_option maxHeartbeats 4000000 in
set_option maxRecDepth 100000 in
theorem r_X5_mode1 (l : Launch) (D : va_G) (cy : Nat → ClassId) (a : Nat → Nat) (u : Nat → Nat → Int32) (y y2 : Int32) (sz : Nat) (hx2 : ¬ (¬ y < 0 ∧ ¬ 7 < y)) : Met l yX5_mode wsX5_mode ({ frames := 2, cells := 0, slots := 0, locals := 42 } : Room) (wl_ic D cy (fun _ => True) [moW cy a u] sz [.ref (a 0), .int y, .int y2]) (va_Qi (fun (r : Int32) (bs : List va_W) => r = 0 ∧ bs = [moW cy a (su u 6 2 (nI 1))]) (wl_ib D [moW cy a u] sz) (va_A ([moW cy a u] : List va_W).flatten sz)) 0 0 (va_A ([moW cy a u] : List va_W).flatten sz) := by
  refine wl_ofI (cc := cX5_mode) (maxL := 3) (ret := (some .int)) (by decide) rfl (Nat.le_of_ble_eq_true rfl) ?_
  intro p e s m below meth c ls A hx hb hr hts hown hlocks hml hnm hsz hAe hP hK hD hX hA hS hl
  have hl : lv_has ls 3 [(0, .ref (a 0)), (1, .int y), (2, .int y2)] := hl
  refine lv_aload_n hx hb dX5_mode_0 rfl (lv_at hl 0 rfl) ?_
  refine lv_iload_n hx hb dX5_mode_1 rfl (lv_at hl 1 rfl) ?_
  refine wl_pS (As := [.int y]) (rest := [.ref (a 0)]) ⟨hx, hb, hml, hown, hts⟩ (m_X5_isLamp l D cy y ) (va_cwS 1 hts gX5_mode_X5_isLamp rfl rfl rfl (by decide +kernel) ⟨Nat.le_of_ble_eq_true rfl, Nat.le_of_ble_eq_true rfl⟩) hK hP [] rfl rfl hl.1 rfl (Nat.le_of_ble_eq_true rfl) dX5_mode_2 ⟨Nat.le_of_ble_eq_true rfl, Nat.le_of_ble_eq_true rfl⟩ (fun r1 er1 => ?_)
  have er1 : r1 = if (¬ y < 0 ∧ ¬ 7 < y) then 1 else 0 := er1
  refine wl_b_ne (tgt := 12) hx hb (¬ y < 0 ∧ ¬ 7 < y) er1 dX5_mode_5 (by decide) (fun c2 => absurd c2 hx2) (fun c2 => ?_)
  refine lv_iconst (v := 1) hx hb dX5_mode_8 (by decide) ?_
  refine lv_goto (tgt := 26) hx hb dX5_mode_9 (by decide) ?_
  refine wl_iV (As := [.int 1]) (rest := []) (bsC := [moW cy a u]) (bsR := []) ⟨hx, hb, hml, hown, hts⟩ (m_X5_refused l D cy a u 1 s.heap.size (by omega)) (cwV 1 hts gX5_mode_X5_refused rfl rfl rfl (by decide +kernel) ⟨Nat.le_of_ble_eq_true rfl, Nat.le_of_ble_eq_true rfl⟩) wl_xT (fun _ _ _ => trivial) hK hP hD hS hA rfl rfl rfl rfl rfl hl.1 rfl (Nat.le_of_ble_eq_true rfl) dX5_mode_26 ⟨Nat.le_of_ble_eq_true rfl, Nat.le_of_ble_eq_true rfl⟩ (fun r3 bs4 H locs e5 _ _ hP hD hS => ?_)
  obtain ⟨er3, e5⟩ : r3 = (if (0 < 1) then 1 else 0) ∧ bs4 = [moW cy a (su u 6 2 (nI 1))] := e5
  subst e5
  have hP : va_P D vwCl ([moW cy a (su u 6 2 (nI 1))] : List va_W).flatten H := hP
  have hD : va_D A ([moW cy a (su u 6 2 (nI 1))] : List va_W).flatten := hD
  refine wl_b_eq (tgt := 36) hx hb (0 < 1) er3 dX5_mode_29 (by decide) (fun c6 => absurd (by decide) c6) (fun c6 => ?_)
  refine lv_iconst (v := 0) hx hb dX5_mode_32 (by decide) ?_
  refine lv_goto (tgt := 44) hx hb dX5_mode_33 (by decide) ?_
  exact wl_Ri (bs := [moW cy a (su u 6 2 (nI 1))]) (r := 0) hx hb hr hlocks hAe hP hD hS (by exact ⟨rfl, rfl⟩) dX5_mode_44
set_option maxHeartbeats 4000000 in
set_option maxRecDepth 100000 in
theorem r_X5_mode2 (l : Launch) (D : va_G) (cy : Nat → ClassId) (a : Nat → Nat) (u : Nat → Nat → Int32) (i : Nat) (y : Int32) (sz : Nat) (hi : i < 8) (hx2 : ¬ (¬ y < 0 ∧ ¬ 3 < y)) : Met l yX5_mode wsX5_mode ({ frames := 2, cells := 0, slots := 0, locals := 42 } : Room) (wl_ic D cy (fun _ => True) [moW cy a u] sz [.ref (a 0), .int (nI i), .int y]) (va_Qi (fun (r : Int32) (bs : List va_W) => r = 0 ∧ bs = [moW cy a (su u 6 2 (nI 2))]) (wl_ib D [moW cy a u] sz) (va_A ([moW cy a u] : List va_W).flatten sz)) 0 0 (va_A ([moW cy a u] : List va_W).flatten sz) := by
  refine wl_ofI (cc := cX5_mode) (maxL := 3) (ret := (some .int)) (by decide) rfl (Nat.le_of_ble_eq_true rfl) ?_
  intro p e s m below meth c ls A hx hb hr hts hown hlocks hml hnm hsz hAe hP hK hD hX hA hS hl
  have hl : lv_has ls 3 [(0, .ref (a 0)), (1, .int (nI i)), (2, .int y)] := hl
  refine lv_aload_n hx hb dX5_mode_0 rfl (lv_at hl 0 rfl) ?_
  refine lv_iload_n hx hb dX5_mode_1 rfl (lv_at hl 1 rfl) ?_
  refine wl_pS (As := [.int (nI i)]) (rest := [.ref (a 0)]) ⟨hx, hb, hml, hown, hts⟩ (m_X5_isLamp l D cy (nI i) ) (va_cwS 1 hts gX5_mode_X5_isLamp rfl rfl rfl (by decide +kernel) ⟨Nat.le_of_ble_eq_true rfl, Nat.le_of_ble_eq_true rfl⟩) hK hP [] rfl rfl hl.1 rfl (Nat.le_of_ble_eq_true rfl) dX5_mode_2 ⟨Nat.le_of_ble_eq_true rfl, Nat.le_of_ble_eq_true rfl⟩ (fun r1 er1 => ?_)
  have er1 : r1 = if (¬ (nI i) < 0 ∧ ¬ 7 < (nI i)) then 1 else 0 := er1
  refine wl_b_ne (tgt := 12) hx hb (¬ (nI i) < 0 ∧ ¬ 7 < (nI i)) er1 dX5_mode_5 (by decide) (fun c2 => ?_) (fun c2 => absurd (wl_rng3 (a := 0) (b := 7) rfl rfl (by omega) (by omega) (by decide)) c2)
  refine lv_iload_n hx hb dX5_mode_12 rfl (lv_at hl 2 rfl) ?_
  refine lv_iconst (v := 0) hx hb dX5_mode_13 (by decide) ?_
  refine lv_iconst (v := 3) hx hb dX5_mode_14 (by decide) ?_
  refine wl_pS (As := [.int y, .int 0, .int 3]) (rest := [.ref (a 0)]) ⟨hx, hb, hml, hown, hts⟩ (m_X5_in l D cy y 0 3 ) (va_cwS 3 hts gX5_mode_X5_in rfl rfl rfl (by decide +kernel) ⟨Nat.le_of_ble_eq_true rfl, Nat.le_of_ble_eq_true rfl⟩) hK hP [] rfl rfl hl.1 rfl (Nat.le_of_ble_eq_true rfl) dX5_mode_15 ⟨Nat.le_of_ble_eq_true rfl, Nat.le_of_ble_eq_true rfl⟩ (fun r3 er3 => ?_)
  have er3 : r3 = if (¬ y < 0 ∧ ¬ 3 < y) then 1 else 0 := er3
  refine wl_b_eq (tgt := 25) hx hb (¬ y < 0 ∧ ¬ 3 < y) er3 dX5_mode_18 (by decide) (fun c4 => ?_) (fun c4 => absurd c4 hx2)
  refine lv_iconst (v := 2) hx hb dX5_mode_25 (by decide) ?_
  refine wl_iV (As := [.int 2]) (rest := []) (bsC := [moW cy a u]) (bsR := []) ⟨hx, hb, hml, hown, hts⟩ (m_X5_refused l D cy a u 2 s.heap.size (by omega)) (cwV 1 hts gX5_mode_X5_refused rfl rfl rfl (by decide +kernel) ⟨Nat.le_of_ble_eq_true rfl, Nat.le_of_ble_eq_true rfl⟩) wl_xT (fun _ _ _ => trivial) hK hP hD hS hA rfl rfl rfl rfl rfl hl.1 rfl (Nat.le_of_ble_eq_true rfl) dX5_mode_26 ⟨Nat.le_of_ble_eq_true rfl, Nat.le_of_ble_eq_true rfl⟩ (fun r5 bs6 H locs e7 _ _ hP hD hS => ?_)
  obtain ⟨er5, e7⟩ : r5 = (if (0 < 2) then 1 else 0) ∧ bs6 = [moW cy a (su u 6 2 (nI 2))] := e7
  subst e7
  have hP : va_P D vwCl ([moW cy a (su u 6 2 (nI 2))] : List va_W).flatten H := hP
  have hD : va_D A ([moW cy a (su u 6 2 (nI 2))] : List va_W).flatten := hD
  refine wl_b_eq (tgt := 36) hx hb (0 < 2) er5 dX5_mode_29 (by decide) (fun c8 => absurd (by decide) c8) (fun c8 => ?_)
  refine lv_iconst (v := 0) hx hb dX5_mode_32 (by decide) ?_
  refine lv_goto (tgt := 44) hx hb dX5_mode_33 (by decide) ?_
  exact wl_Ri (bs := [moW cy a (su u 6 2 (nI 2))]) (r := 0) hx hb hr hlocks hAe hP hD hS (by exact ⟨rfl, rfl⟩) dX5_mode_44
set_option maxHeartbeats 4000000 in
set_option maxRecDepth 100000 in
theorem r_X5_loss (l : Launch) (D : va_G) (cy : Nat → ClassId) (a : Nat → Nat) (u : Nat → Nat → Int32) (i k b : Nat) (sz : Nat) (hi : i < 8) (hk : k ≤ 6) (hsv : u 6 0 = nI b) (hsv2 : b ≤ 6) : Met l yX5_loss wsX5_loss ({ frames := 3, cells := 0, slots := 0, locals := 68 } : Room) (wl_ic D cy (fun _ => True) [moW cy a u] sz [.ref (a 0), .int (nI i), .int (nI k)]) (va_Qi (fun (r : Int32) (bs : List va_W) => r = u 0 (8 + i) ∧ bs = [moW cy a (su (q_sv (su u 6 2 (nI 0)) b) 0 (8 + i) (nI k))]) (wl_ib D [moW cy a u] sz) (va_A ([moW cy a u] : List va_W).flatten sz)) 0 0 (va_A ([moW cy a u] : List va_W).flatten sz) := by
  refine wl_ofI (cc := cX5_loss) (maxL := 3) (ret := (some .int)) (by decide) rfl (Nat.le_of_ble_eq_true rfl) ?_
  intro p e s m below meth c ls A hx hb hr hts hown hlocks hml hnm hsz hAe hP hK hD hX hA hS hl
  have hl : lv_has ls 3 [(0, .ref (a 0)), (1, .int (nI i)), (2, .int (nI k))] := hl
  refine lv_aload_n hx hb dX5_loss_0 rfl (lv_at hl 0 rfl) ?_
  refine lv_iload_n hx hb dX5_loss_1 rfl (lv_at hl 1 rfl) ?_
  refine wl_pS (As := [.int (nI i)]) (rest := [.ref (a 0)]) ⟨hx, hb, hml, hown, hts⟩ (m_X5_isLamp l D cy (nI i) ) (va_cwS 1 hts gX5_loss_X5_isLamp rfl rfl rfl (by decide +kernel) ⟨Nat.le_of_ble_eq_true rfl, Nat.le_of_ble_eq_true rfl⟩) hK hP [] rfl rfl hl.1 rfl (Nat.le_of_ble_eq_true rfl) dX5_loss_2 ⟨Nat.le_of_ble_eq_true rfl, Nat.le_of_ble_eq_true rfl⟩ (fun r1 er1 => ?_)
  have er1 : r1 = if (¬ (nI i) < 0 ∧ ¬ 7 < (nI i)) then 1 else 0 := er1
  refine wl_b_ne (tgt := 12) hx hb (¬ (nI i) < 0 ∧ ¬ 7 < (nI i)) er1 dX5_loss_5 (by decide) (fun c2 => ?_) (fun c2 => absurd (wl_rng3 (a := 0) (b := 7) rfl rfl (by omega) (by omega) (by decide)) c2)
  refine lv_iload_n hx hb dX5_loss_12 rfl (lv_at hl 2 rfl) ?_
  refine lv_iconst (v := 0) hx hb dX5_loss_13 (by decide) ?_
  refine lv_bipush (v := 6) hx hb dX5_loss_14 (by decide) ?_
  refine wl_pS (As := [.int (nI k), .int 0, .int 6]) (rest := [.ref (a 0)]) ⟨hx, hb, hml, hown, hts⟩ (m_X5_in l D cy (nI k) 0 6 ) (va_cwS 3 hts gX5_loss_X5_in rfl rfl rfl (by decide +kernel) ⟨Nat.le_of_ble_eq_true rfl, Nat.le_of_ble_eq_true rfl⟩) hK hP [] rfl rfl hl.1 rfl (Nat.le_of_ble_eq_true rfl) dX5_loss_16 ⟨Nat.le_of_ble_eq_true rfl, Nat.le_of_ble_eq_true rfl⟩ (fun r3 er3 => ?_)
  have er3 : r3 = if (¬ (nI k) < 0 ∧ ¬ 6 < (nI k)) then 1 else 0 := er3
  refine wl_b_eq (tgt := 26) hx hb (¬ (nI k) < 0 ∧ ¬ 6 < (nI k)) er3 dX5_loss_19 (by decide) (fun c4 => absurd (wl_rng3 (a := 0) (b := 6) rfl rfl (by omega) (by omega) (by decide)) c4) (fun c4 => ?_)
  refine lv_iconst (v := 0) hx hb dX5_loss_22 (by decide) ?_
  refine lv_goto (tgt := 27) hx hb dX5_loss_23 (by decide) ?_
  refine wl_iV (As := [.int 0]) (rest := []) (bsC := [moW cy a u]) (bsR := []) ⟨hx, hb, hml, hown, hts⟩ (m_X5_refused l D cy a u 0 s.heap.size (by omega)) (cwV 1 hts gX5_loss_X5_refused rfl rfl rfl (by decide +kernel) ⟨Nat.le_of_ble_eq_true rfl, Nat.le_of_ble_eq_true rfl⟩) wl_xT (fun _ _ _ => trivial) hK hP hD hS hA rfl rfl rfl rfl rfl hl.1 rfl (Nat.le_of_ble_eq_true rfl) dX5_loss_27 ⟨Nat.le_of_ble_eq_true rfl, Nat.le_of_ble_eq_true rfl⟩ (fun r5 bs6 H locs e7 _ _ hP hD hS => ?_)
  obtain ⟨er5, e7⟩ : r5 = (if (0 < 0) then 1 else 0) ∧ bs6 = [moW cy a (su u 6 2 (nI 0))] := e7
  subst e7
  have hP : va_P D vwCl ([moW cy a (su u 6 2 (nI 0))] : List va_W).flatten H := hP
  have hD : va_D A ([moW cy a (su u 6 2 (nI 0))] : List va_W).flatten := hD
  refine wl_b_eq (tgt := 37) hx hb (0 < 0) er5 dX5_loss_30 (by decide) (fun c8 => ?_) (fun c8 => absurd c8 (by decide))
  refine lv_aload_n hx hb dX5_loss_37 rfl (lv_at hl 0 rfl) ?_
  refine lv_bipush (v := 8) hx hb dX5_loss_38 (by decide) ?_
  refine lv_iload_n hx hb dX5_loss_40 rfl (lv_at hl 1 rfl) ?_
  refine lv_iadd hx hb dX5_loss_41 ?_
  refine wl_top (y := nI (8 + i)) (nI_add 8 i) ?_
  refine lv_iload_n hx hb dX5_loss_42 rfl (lv_at hl 2 rfl) ?_
  refine wl_iV (As := [.int (nI (8 + i)), .int (nI k)]) (rest := []) (bsC := [moW cy a (su u 6 2 (nI 0))]) (bsR := []) ⟨hx, hb, hml, hown, hts⟩ (m_X5_change l D cy a (su u 6 2 (nI 0)) (nI k) (8 + i) b H.size (by omega) hsv (by omega)) (cwV 2 hts gX5_loss_X5_change rfl rfl rfl (by decide +kernel) ⟨Nat.le_of_ble_eq_true rfl, Nat.le_of_ble_eq_true rfl⟩) wl_xT (fun _ _ _ => trivial) hK hP hD hS hA rfl rfl rfl rfl rfl hl.1 rfl (Nat.le_of_ble_eq_true rfl) dX5_loss_43 ⟨Nat.le_of_ble_eq_true rfl, Nat.le_of_ble_eq_true rfl⟩ (fun r9 bs10 H locs e11 _ _ hP hD hS => ?_)
  obtain ⟨er9, e11⟩ : r9 = (su u 6 2 (nI 0)) 0 (8 + i) ∧ bs10 = [moW cy a (su (q_sv (su u 6 2 (nI 0)) b) 0 (8 + i) (nI k))] := e11
  subst e11
  subst er9
  have hP : va_P D vwCl ([moW cy a (su (q_sv (su u 6 2 (nI 0)) b) 0 (8 + i) (nI k))] : List va_W).flatten H := hP
  have hD : va_D A ([moW cy a (su (q_sv (su u 6 2 (nI 0)) b) 0 (8 + i) (nI k))] : List va_W).flatten := hD
  exact wl_Ri (bs := [moW cy a (su (q_sv (su u 6 2 (nI 0)) b) 0 (8 + i) (nI k))]) (r := ((su u 6 2 (nI 0)) 0 (8 + i))) hx hb hr hlocks hAe hP hD hS (by exact ⟨rfl, rfl⟩) dX5_loss_46
set_option maxHeartbeats 4000000 in
set_option maxRecDepth 100000 in
theorem r_X5_loss1 (l : Launch) (D : va_G) (cy : Nat → ClassId) (a : Nat → Nat) (u : Nat → Nat → Int32) (y y2 : Int32) (sz : Nat) (hx2 : ¬ (¬ y < 0 ∧ ¬ 7 < y)) : Met l yX5_loss wsX5_loss ({ frames := 2, cells := 0, slots := 0, locals := 42 } : Room) (wl_ic D cy (fun _ => True) [moW cy a u] sz [.ref (a 0), .int y, .int y2]) (va_Qi (fun (r : Int32) (bs : List va_W) => r = 0 ∧ bs = [moW cy a (su u 6 2 (nI 1))]) (wl_ib D [moW cy a u] sz) (va_A ([moW cy a u] : List va_W).flatten sz)) 0 0 (va_A ([moW cy a u] : List va_W).flatten sz) := by
  refine wl_ofI (cc := cX5_loss) (maxL := 3) (ret := (some .int)) (by decide) rfl (Nat.le_of_ble_eq_true rfl) ?_
  intro p e s m below meth c ls A hx hb hr hts hown hlocks hml hnm hsz hAe hP hK hD hX hA hS hl
  have hl : lv_has ls 3 [(0, .ref (a 0)), (1, .int y), (2, .int y2)] := hl
  refine lv_aload_n hx hb dX5_loss_0 rfl (lv_at hl 0 rfl) ?_
  refine lv_iload_n hx hb dX5_loss_1 rfl (lv_at hl 1 rfl) ?_
  refine wl_pS (As := [.int y]) (rest := [.ref (a 0)]) ⟨hx, hb, hml, hown, hts⟩ (m_X5_isLamp l D cy y ) (va_cwS 1 hts gX5_loss_X5_isLamp rfl rfl rfl (by decide +kernel) ⟨Nat.le_of_ble_eq_true rfl, Nat.le_of_ble_eq_true rfl⟩) hK hP [] rfl rfl hl.1 rfl (Nat.le_of_ble_eq_true rfl) dX5_loss_2 ⟨Nat.le_of_ble_eq_true rfl, Nat.le_of_ble_eq_true rfl⟩ (fun r1 er1 => ?_)
  have er1 : r1 = if (¬ y < 0 ∧ ¬ 7 < y) then 1 else 0 := er1
  refine wl_b_ne (tgt := 12) hx hb (¬ y < 0 ∧ ¬ 7 < y) er1 dX5_loss_5 (by decide) (fun c2 => absurd c2 hx2) (fun c2 => ?_)
  refine lv_iconst (v := 1) hx hb dX5_loss_8 (by decide) ?_
  refine lv_goto (tgt := 27) hx hb dX5_loss_9 (by decide) ?_
  refine wl_iV (As := [.int 1]) (rest := []) (bsC := [moW cy a u]) (bsR := []) ⟨hx, hb, hml, hown, hts⟩ (m_X5_refused l D cy a u 1 s.heap.size (by omega)) (cwV 1 hts gX5_loss_X5_refused rfl rfl rfl (by decide +kernel) ⟨Nat.le_of_ble_eq_true rfl, Nat.le_of_ble_eq_true rfl⟩) wl_xT (fun _ _ _ => trivial) hK hP hD hS hA rfl rfl rfl rfl rfl hl.1 rfl (Nat.le_of_ble_eq_true rfl) dX5_loss_27 ⟨Nat.le_of_ble_eq_true rfl, Nat.le_of_ble_eq_true rfl⟩ (fun r3 bs4 H locs e5 _ _ hP hD hS => ?_)
  obtain ⟨er3, e5⟩ : r3 = (if (0 < 1) then 1 else 0) ∧ bs4 = [moW cy a (su u 6 2 (nI 1))] := e5
  subst e5
  have hP : va_P D vwCl ([moW cy a (su u 6 2 (nI 1))] : List va_W).flatten H := hP
  have hD : va_D A ([moW cy a (su u 6 2 (nI 1))] : List va_W).flatten := hD
  refine wl_b_eq (tgt := 37) hx hb (0 < 1) er3 dX5_loss_30 (by decide) (fun c6 => absurd (by decide) c6) (fun c6 => ?_)
  refine lv_iconst (v := 0) hx hb dX5_loss_33 (by decide) ?_
  refine lv_goto (tgt := 46) hx hb dX5_loss_34 (by decide) ?_
  exact wl_Ri (bs := [moW cy a (su u 6 2 (nI 1))]) (r := 0) hx hb hr hlocks hAe hP hD hS (by exact ⟨rfl, rfl⟩) dX5_loss_46
set_option maxHeartbeats 4000000 in
set_option maxRecDepth 100000 in
theorem r_X5_loss2 (l : Launch) (D : va_G) (cy : Nat → ClassId) (a : Nat → Nat) (u : Nat → Nat → Int32) (i : Nat) (y : Int32) (sz : Nat) (hi : i < 8) (hx2 : ¬ (¬ y < 0 ∧ ¬ 6 < y)) : Met l yX5_loss wsX5_loss ({ frames := 2, cells := 0, slots := 0, locals := 42 } : Room) (wl_ic D cy (fun _ => True) [moW cy a u] sz [.ref (a 0), .int (nI i), .int y]) (va_Qi (fun (r : Int32) (bs : List va_W) => r = 0 ∧ bs = [moW cy a (su u 6 2 (nI 2))]) (wl_ib D [moW cy a u] sz) (va_A ([moW cy a u] : List va_W).flatten sz)) 0 0 (va_A ([moW cy a u] : List va_W).flatten sz) := by
  refine wl_ofI (cc := cX5_loss) (maxL := 3) (ret := (some .int)) (by decide) rfl (Nat.le_of_ble_eq_true rfl) ?_
  intro p e s m below meth c ls A hx hb hr hts hown hlocks hml hnm hsz hAe hP hK hD hX hA hS hl
  have hl : lv_has ls 3 [(0, .ref (a 0)), (1, .int (nI i)), (2, .int y)] := hl
  refine lv_aload_n hx hb dX5_loss_0 rfl (lv_at hl 0 rfl) ?_
  refine lv_iload_n hx hb dX5_loss_1 rfl (lv_at hl 1 rfl) ?_
  refine wl_pS (As := [.int (nI i)]) (rest := [.ref (a 0)]) ⟨hx, hb, hml, hown, hts⟩ (m_X5_isLamp l D cy (nI i) ) (va_cwS 1 hts gX5_loss_X5_isLamp rfl rfl rfl (by decide +kernel) ⟨Nat.le_of_ble_eq_true rfl, Nat.le_of_ble_eq_true rfl⟩) hK hP [] rfl rfl hl.1 rfl (Nat.le_of_ble_eq_true rfl) dX5_loss_2 ⟨Nat.le_of_ble_eq_true rfl, Nat.le_of_ble_eq_true rfl⟩ (fun r1 er1 => ?_)
  have er1 : r1 = if (¬ (nI i) < 0 ∧ ¬ 7 < (nI i)) then 1 else 0 := er1
  refine wl_b_ne (tgt := 12) hx hb (¬ (nI i) < 0 ∧ ¬ 7 < (nI i)) er1 dX5_loss_5 (by decide) (fun c2 => ?_) (fun c2 => absurd (wl_rng3 (a := 0) (b := 7) rfl rfl (by omega) (by omega) (by decide)) c2)
  refine lv_iload_n hx hb dX5_loss_12 rfl (lv_at hl 2 rfl) ?_
  refine lv_iconst (v := 0) hx hb dX5_loss_13 (by decide) ?_
  refine lv_bipush (v := 6) hx hb dX5_loss_14 (by decide) ?_
  refine wl_pS (As := [.int y, .int 0, .int 6]) (rest := [.ref (a 0)]) ⟨hx, hb, hml, hown, hts⟩ (m_X5_in l D cy y 0 6 ) (va_cwS 3 hts gX5_loss_X5_in rfl rfl rfl (by decide +kernel) ⟨Nat.le_of_ble_eq_true rfl, Nat.le_of_ble_eq_true rfl⟩) hK hP [] rfl rfl hl.1 rfl (Nat.le_of_ble_eq_true rfl) dX5_loss_16 ⟨Nat.le_of_ble_eq_true rfl, Nat.le_of_ble_eq_true rfl⟩ (fun r3 er3 => ?_)
  have er3 : r3 = if (¬ y < 0 ∧ ¬ 6 < y) then 1 else 0 := er3
  refine wl_b_eq (tgt := 26) hx hb (¬ y < 0 ∧ ¬ 6 < y) er3 dX5_loss_19 (by decide) (fun c4 => ?_) (fun c4 => absurd c4 hx2)
  refine lv_iconst (v := 2) hx hb dX5_loss_26 (by decide) ?_
  refine wl_iV (As := [.int 2]) (rest := []) (bsC := [moW cy a u]) (bsR := []) ⟨hx, hb, hml, hown, hts⟩ (m_X5_refused l D cy a u 2 s.heap.size (by omega)) (cwV 1 hts gX5_loss_X5_refused rfl rfl rfl (by decide +kernel) ⟨Nat.le_of_ble_eq_true rfl, Nat.le_of_ble_eq_true rfl⟩) wl_xT (fun _ _ _ => trivial) hK hP hD hS hA rfl rfl rfl rfl rfl hl.1 rfl (Nat.le_of_ble_eq_true rfl) dX5_loss_27 ⟨Nat.le_of_ble_eq_true rfl, Nat.le_of_ble_eq_true rfl⟩ (fun r5 bs6 H locs e7 _ _ hP hD hS => ?_)
  obtain ⟨er5, e7⟩ : r5 = (if (0 < 2) then 1 else 0) ∧ bs6 = [moW cy a (su u 6 2 (nI 2))] := e7
  subst e7
  have hP : va_P D vwCl ([moW cy a (su u 6 2 (nI 2))] : List va_W).flatten H := hP
  have hD : va_D A ([moW cy a (su u 6 2 (nI 2))] : List va_W).flatten := hD
  refine wl_b_eq (tgt := 37) hx hb (0 < 2) er5 dX5_loss_30 (by decide) (fun c8 => absurd (by decide) c8) (fun c8 => ?_)
  refine lv_iconst (v := 0) hx hb dX5_loss_33 (by decide) ?_
  refine lv_goto (tgt := 46) hx hb dX5_loss_34 (by decide) ?_
  exact wl_Ri (bs := [moW cy a (su u 6 2 (nI 2))]) (r := 0) hx hb hr hlocks hAe hP hD hS (by exact ⟨rfl, rfl⟩) dX5_loss_46
set_option maxHeartbeats 4000000 in
set_option maxRecDepth 100000 in
theorem r_X5_set (l : Launch) (D : va_G) (cy : Nat → ClassId) (a : Nat → Nat) (u : Nat → Nat → Int32) (i k b : Nat) (sz : Nat) (hi : i < 3) (hk : q_lo3 i ≤ k ∧ k ≤ q_hi3 i) (hsv : u 6 0 = nI b) (hsv2 : b ≤ 6) : Met l yX5_set wsX5_set ({ frames := 3, cells := 0, slots := 0, locals := 68 } : Room) (wl_ic D cy (fun _ => True) [moW cy a u] sz [.ref (a 0), .int (nI i), .int (nI k)]) (va_Qi (fun (r : Int32) (bs : List va_W) => r = u 0 (40 + i) ∧ bs = [moW cy a (su (q_sv (su u 6 2 (nI 0)) b) 0 (40 + i) (nI k))]) (wl_ib D [moW cy a u] sz) (va_A ([moW cy a u] : List va_W).flatten sz)) 0 0 (va_A ([moW cy a u] : List va_W).flatten sz) := by
  refine wl_ofI (cc := cX5_set) (maxL := 3) (ret := (some .int)) (by decide) rfl (Nat.le_of_ble_eq_true rfl) ?_
  intro p e s m below meth c ls A hx hb hr hts hown hlocks hml hnm hsz hAe hP hK hD hX hA hS hl
  have hl : lv_has ls 3 [(0, .ref (a 0)), (1, .int (nI i)), (2, .int (nI k))] := hl
  refine lv_aload_n hx hb dX5_set_0 rfl (lv_at hl 0 rfl) ?_
  refine lv_iload_n hx hb dX5_set_1 rfl (lv_at hl 1 rfl) ?_
  refine lv_iconst (v := 0) hx hb dX5_set_2 (by decide) ?_
  refine lv_iconst (v := 2) hx hb dX5_set_3 (by decide) ?_
  refine wl_pS (As := [.int (nI i), .int 0, .int 2]) (rest := [.ref (a 0)]) ⟨hx, hb, hml, hown, hts⟩ (m_X5_in l D cy (nI i) 0 2 ) (va_cwS 3 hts gX5_set_X5_in rfl rfl rfl (by decide +kernel) ⟨Nat.le_of_ble_eq_true rfl, Nat.le_of_ble_eq_true rfl⟩) hK hP [] rfl rfl hl.1 rfl (Nat.le_of_ble_eq_true rfl) dX5_set_4 ⟨Nat.le_of_ble_eq_true rfl, Nat.le_of_ble_eq_true rfl⟩ (fun r1 er1 => ?_)
  have er1 : r1 = if (¬ (nI i) < 0 ∧ ¬ 2 < (nI i)) then 1 else 0 := er1
  refine wl_b_ne (tgt := 14) hx hb (¬ (nI i) < 0 ∧ ¬ 2 < (nI i)) er1 dX5_set_7 (by decide) (fun c2 => ?_) (fun c2 => absurd (wl_rng3 (a := 0) (b := 2) rfl rfl (by omega) (by omega) (by decide)) c2)
  refine lv_iload_n hx hb dX5_set_14 rfl (lv_at hl 1 rfl) ?_
  refine lv_iload_n hx hb dX5_set_15 rfl (lv_at hl 2 rfl) ?_
  refine wl_pS (As := [.int (nI i), .int (nI k)]) (rest := [.ref (a 0)]) ⟨hx, hb, hml, hown, hts⟩ (m_X5_isValue l D cy i (nI k) (by omega)) (va_cwS 2 hts gX5_set_X5_isValue rfl rfl rfl (by decide +kernel) ⟨Nat.le_of_ble_eq_true rfl, Nat.le_of_ble_eq_true rfl⟩) hK hP [] rfl rfl hl.1 rfl (Nat.le_of_ble_eq_true rfl) dX5_set_16 ⟨Nat.le_of_ble_eq_true rfl, Nat.le_of_ble_eq_true rfl⟩ (fun r3 er3 => ?_)
  have er3 : r3 = if (¬ (nI k) < nI (q_lo3 i) ∧ ¬ nI (q_hi3 i) < (nI k)) then 1 else 0 := er3
  refine wl_b_eq (tgt := 26) hx hb (¬ (nI k) < nI (q_lo3 i) ∧ ¬ nI (q_hi3 i) < (nI k)) er3 dX5_set_19 (by decide) (fun c4 => absurd (wl_rng3 rfl rfl hk.1 hk.2 (by have := q_hi3_le i; omega)) c4) (fun c4 => ?_)
  refine lv_iconst (v := 0) hx hb dX5_set_22 (by decide) ?_
  refine lv_goto (tgt := 27) hx hb dX5_set_23 (by decide) ?_
  refine wl_iV (As := [.int 0]) (rest := []) (bsC := [moW cy a u]) (bsR := []) ⟨hx, hb, hml, hown, hts⟩ (m_X5_refused l D cy a u 0 s.heap.size (by omega)) (cwV 1 hts gX5_set_X5_refused rfl rfl rfl (by decide +kernel) ⟨Nat.le_of_ble_eq_true rfl, Nat.le_of_ble_eq_true rfl⟩) wl_xT (fun _ _ _ => trivial) hK hP hD hS hA rfl rfl rfl rfl rfl hl.1 rfl (Nat.le_of_ble_eq_true rfl) dX5_set_27 ⟨Nat.le_of_ble_eq_true rfl, Nat.le_of_ble_eq_true rfl⟩ (fun r5 bs6 H locs e7 _ _ hP hD hS => ?_)
  obtain ⟨er5, e7⟩ : r5 = (if (0 < 0) then 1 else 0) ∧ bs6 = [moW cy a (su u 6 2 (nI 0))] := e7
  subst e7
  have hP : va_P D vwCl ([moW cy a (su u 6 2 (nI 0))] : List va_W).flatten H := hP
  have hD : va_D A ([moW cy a (su u 6 2 (nI 0))] : List va_W).flatten := hD
  refine wl_b_eq (tgt := 37) hx hb (0 < 0) er5 dX5_set_30 (by decide) (fun c8 => ?_) (fun c8 => absurd c8 (by decide))
  refine lv_aload_n hx hb dX5_set_37 rfl (lv_at hl 0 rfl) ?_
  refine lv_bipush (v := 40) hx hb dX5_set_38 (by decide) ?_
  refine lv_iload_n hx hb dX5_set_40 rfl (lv_at hl 1 rfl) ?_
  refine lv_iadd hx hb dX5_set_41 ?_
  refine wl_top (y := nI (40 + i)) (nI_add 40 i) ?_
  refine lv_iload_n hx hb dX5_set_42 rfl (lv_at hl 2 rfl) ?_
  refine wl_iV (As := [.int (nI (40 + i)), .int (nI k)]) (rest := []) (bsC := [moW cy a (su u 6 2 (nI 0))]) (bsR := []) ⟨hx, hb, hml, hown, hts⟩ (m_X5_change l D cy a (su u 6 2 (nI 0)) (nI k) (40 + i) b H.size (by omega) hsv (by omega)) (cwV 2 hts gX5_set_X5_change rfl rfl rfl (by decide +kernel) ⟨Nat.le_of_ble_eq_true rfl, Nat.le_of_ble_eq_true rfl⟩) wl_xT (fun _ _ _ => trivial) hK hP hD hS hA rfl rfl rfl rfl rfl hl.1 rfl (Nat.le_of_ble_eq_true rfl) dX5_set_43 ⟨Nat.le_of_ble_eq_true rfl, Nat.le_of_ble_eq_true rfl⟩ (fun r9 bs10 H locs e11 _ _ hP hD hS => ?_)
  obtain ⟨er9, e11⟩ : r9 = (su u 6 2 (nI 0)) 0 (40 + i) ∧ bs10 = [moW cy a (su (q_sv (su u 6 2 (nI 0)) b) 0 (40 + i) (nI k))] := e11
  subst e11
  subst er9
  have hP : va_P D vwCl ([moW cy a (su (q_sv (su u 6 2 (nI 0)) b) 0 (40 + i) (nI k))] : List va_W).flatten H := hP
  have hD : va_D A ([moW cy a (su (q_sv (su u 6 2 (nI 0)) b) 0 (40 + i) (nI k))] : List va_W).flatten := hD
  exact wl_Ri (bs := [moW cy a (su (q_sv (su u 6 2 (nI 0)) b) 0 (40 + i) (nI k))]) (r := ((su u 6 2 (nI 0)) 0 (40 + i))) hx hb hr hlocks hAe hP hD hS (by exact ⟨rfl, rfl⟩) dX5_set_46
set_option maxHeartbeats 4000000 in
set_option maxRecDepth 100000 in
theorem r_X5_set1 (l : Launch) (D : va_G) (cy : Nat → ClassId) (a : Nat → Nat) (u : Nat → Nat → Int32) (y y2 : Int32) (sz : Nat) (hx2 : ¬ (¬ y < 0 ∧ ¬ 2 < y)) : Met l yX5_set wsX5_set ({ frames := 1, cells := 0, slots := 0, locals := 22 } : Room) (wl_ic D cy (fun _ => True) [moW cy a u] sz [.ref (a 0), .int y, .int y2]) (va_Qi (fun (r : Int32) (bs : List va_W) => r = 0 ∧ bs = [moW cy a (su u 6 2 (nI 1))]) (wl_ib D [moW cy a u] sz) (va_A ([moW cy a u] : List va_W).flatten sz)) 0 0 (va_A ([moW cy a u] : List va_W).flatten sz) := by
  refine wl_ofI (cc := cX5_set) (maxL := 3) (ret := (some .int)) (by decide) rfl (Nat.le_of_ble_eq_true rfl) ?_
  intro p e s m below meth c ls A hx hb hr hts hown hlocks hml hnm hsz hAe hP hK hD hX hA hS hl
  have hl : lv_has ls 3 [(0, .ref (a 0)), (1, .int y), (2, .int y2)] := hl
  refine lv_aload_n hx hb dX5_set_0 rfl (lv_at hl 0 rfl) ?_
  refine lv_iload_n hx hb dX5_set_1 rfl (lv_at hl 1 rfl) ?_
  refine lv_iconst (v := 0) hx hb dX5_set_2 (by decide) ?_
  refine lv_iconst (v := 2) hx hb dX5_set_3 (by decide) ?_
  refine wl_pS (As := [.int y, .int 0, .int 2]) (rest := [.ref (a 0)]) ⟨hx, hb, hml, hown, hts⟩ (m_X5_in l D cy y 0 2 ) (va_cwS 3 hts gX5_set_X5_in rfl rfl rfl (by decide +kernel) ⟨Nat.le_of_ble_eq_true rfl, Nat.le_of_ble_eq_true rfl⟩) hK hP [] rfl rfl hl.1 rfl (Nat.le_of_ble_eq_true rfl) dX5_set_4 ⟨Nat.le_of_ble_eq_true rfl, Nat.le_of_ble_eq_true rfl⟩ (fun r1 er1 => ?_)
  have er1 : r1 = if (¬ y < 0 ∧ ¬ 2 < y) then 1 else 0 := er1
  refine wl_b_ne (tgt := 14) hx hb (¬ y < 0 ∧ ¬ 2 < y) er1 dX5_set_7 (by decide) (fun c2 => absurd c2 hx2) (fun c2 => ?_)
  refine lv_iconst (v := 1) hx hb dX5_set_10 (by decide) ?_
  refine lv_goto (tgt := 27) hx hb dX5_set_11 (by decide) ?_
  refine wl_iV (As := [.int 1]) (rest := []) (bsC := [moW cy a u]) (bsR := []) ⟨hx, hb, hml, hown, hts⟩ (m_X5_refused l D cy a u 1 s.heap.size (by omega)) (cwV 1 hts gX5_set_X5_refused rfl rfl rfl (by decide +kernel) ⟨Nat.le_of_ble_eq_true rfl, Nat.le_of_ble_eq_true rfl⟩) wl_xT (fun _ _ _ => trivial) hK hP hD hS hA rfl rfl rfl rfl rfl hl.1 rfl (Nat.le_of_ble_eq_true rfl) dX5_set_27 ⟨Nat.le_of_ble_eq_true rfl, Nat.le_of_ble_eq_true rfl⟩ (fun r3 bs4 H locs e5 _ _ hP hD hS => ?_)
  obtain ⟨er3, e5⟩ : r3 = (if (0 < 1) then 1 else 0) ∧ bs4 = [moW cy a (su u 6 2 (nI 1))] := e5
  subst e5
  have hP : va_P D vwCl ([moW cy a (su u 6 2 (nI 1))] : List va_W).flatten H := hP
  have hD : va_D A ([moW cy a (su u 6 2 (nI 1))] : List va_W).flatten := hD
  refine wl_b_eq (tgt := 37) hx hb (0 < 1) er3 dX5_set_30 (by decide) (fun c6 => absurd (by decide) c6) (fun c6 => ?_)
  refine lv_iconst (v := 0) hx hb dX5_set_33 (by decide) ?_
  refine lv_goto (tgt := 46) hx hb dX5_set_34 (by decide) ?_
  exact wl_Ri (bs := [moW cy a (su u 6 2 (nI 1))]) (r := 0) hx hb hr hlocks hAe hP hD hS (by exact ⟨rfl, rfl⟩) dX5_set_46
set_option maxHeartbeats 4000000 in
set_option maxRecDepth 100000 in
theorem r_X5_set2 (l : Launch) (D : va_G) (cy : Nat → ClassId) (a : Nat → Nat) (u : Nat → Nat → Int32) (i : Nat) (y : Int32) (sz : Nat) (hi : i < 3) (hx2 : ¬ (¬ y < nI (q_lo3 i) ∧ ¬ nI (q_hi3 i) < y)) : Met l yX5_set wsX5_set ({ frames := 2, cells := 0, slots := 0, locals := 43 } : Room) (wl_ic D cy (fun _ => True) [moW cy a u] sz [.ref (a 0), .int (nI i), .int y]) (va_Qi (fun (r : Int32) (bs : List va_W) => r = 0 ∧ bs = [moW cy a (su u 6 2 (nI 2))]) (wl_ib D [moW cy a u] sz) (va_A ([moW cy a u] : List va_W).flatten sz)) 0 0 (va_A ([moW cy a u] : List va_W).flatten sz) := by
  refine wl_ofI (cc := cX5_set) (maxL := 3) (ret := (some .int)) (by decide) rfl (Nat.le_of_ble_eq_true rfl) ?_
  intro p e s m below meth c ls A hx hb hr hts hown hlocks hml hnm hsz hAe hP hK hD hX hA hS hl
  have hl : lv_has ls 3 [(0, .ref (a 0)), (1, .int (nI i)), (2, .int y)] := hl
  refine lv_aload_n hx hb dX5_set_0 rfl (lv_at hl 0 rfl) ?_
  refine lv_iload_n hx hb dX5_set_1 rfl (lv_at hl 1 rfl) ?_
  refine lv_iconst (v := 0) hx hb dX5_set_2 (by decide) ?_
  refine lv_iconst (v := 2) hx hb dX5_set_3 (by decide) ?_
  refine wl_pS (As := [.int (nI i), .int 0, .int 2]) (rest := [.ref (a 0)]) ⟨hx, hb, hml, hown, hts⟩ (m_X5_in l D cy (nI i) 0 2 ) (va_cwS 3 hts gX5_set_X5_in rfl rfl rfl (by decide +kernel) ⟨Nat.le_of_ble_eq_true rfl, Nat.le_of_ble_eq_true rfl⟩) hK hP [] rfl rfl hl.1 rfl (Nat.le_of_ble_eq_true rfl) dX5_set_4 ⟨Nat.le_of_ble_eq_true rfl, Nat.le_of_ble_eq_true rfl⟩ (fun r1 er1 => ?_)
  have er1 : r1 = if (¬ (nI i) < 0 ∧ ¬ 2 < (nI i)) then 1 else 0 := er1
  refine wl_b_ne (tgt := 14) hx hb (¬ (nI i) < 0 ∧ ¬ 2 < (nI i)) er1 dX5_set_7 (by decide) (fun c2 => ?_) (fun c2 => absurd (wl_rng3 (a := 0) (b := 2) rfl rfl (by omega) (by omega) (by decide)) c2)
  refine lv_iload_n hx hb dX5_set_14 rfl (lv_at hl 1 rfl) ?_
  refine lv_iload_n hx hb dX5_set_15 rfl (lv_at hl 2 rfl) ?_
  refine wl_pS (As := [.int (nI i), .int y]) (rest := [.ref (a 0)]) ⟨hx, hb, hml, hown, hts⟩ (m_X5_isValue l D cy i y (by omega)) (va_cwS 2 hts gX5_set_X5_isValue rfl rfl rfl (by decide +kernel) ⟨Nat.le_of_ble_eq_true rfl, Nat.le_of_ble_eq_true rfl⟩) hK hP [] rfl rfl hl.1 rfl (Nat.le_of_ble_eq_true rfl) dX5_set_16 ⟨Nat.le_of_ble_eq_true rfl, Nat.le_of_ble_eq_true rfl⟩ (fun r3 er3 => ?_)
  have er3 : r3 = if (¬ y < nI (q_lo3 i) ∧ ¬ nI (q_hi3 i) < y) then 1 else 0 := er3
  refine wl_b_eq (tgt := 26) hx hb (¬ y < nI (q_lo3 i) ∧ ¬ nI (q_hi3 i) < y) er3 dX5_set_19 (by decide) (fun c4 => ?_) (fun c4 => absurd c4 hx2)
  refine lv_iconst (v := 2) hx hb dX5_set_26 (by decide) ?_
  refine wl_iV (As := [.int 2]) (rest := []) (bsC := [moW cy a u]) (bsR := []) ⟨hx, hb, hml, hown, hts⟩ (m_X5_refused l D cy a u 2 s.heap.size (by omega)) (cwV 1 hts gX5_set_X5_refused rfl rfl rfl (by decide +kernel) ⟨Nat.le_of_ble_eq_true rfl, Nat.le_of_ble_eq_true rfl⟩) wl_xT (fun _ _ _ => trivial) hK hP hD hS hA rfl rfl rfl rfl rfl hl.1 rfl (Nat.le_of_ble_eq_true rfl) dX5_set_27 ⟨Nat.le_of_ble_eq_true rfl, Nat.le_of_ble_eq_true rfl⟩ (fun r5 bs6 H locs e7 _ _ hP hD hS => ?_)
  obtain ⟨er5, e7⟩ : r5 = (if (0 < 2) then 1 else 0) ∧ bs6 = [moW cy a (su u 6 2 (nI 2))] := e7
  subst e7
  have hP : va_P D vwCl ([moW cy a (su u 6 2 (nI 2))] : List va_W).flatten H := hP
  have hD : va_D A ([moW cy a (su u 6 2 (nI 2))] : List va_W).flatten := hD
  refine wl_b_eq (tgt := 37) hx hb (0 < 2) er5 dX5_set_30 (by decide) (fun c8 => absurd (by decide) c8) (fun c8 => ?_)
  refine lv_iconst (v := 0) hx hb dX5_set_33 (by decide) ?_
  refine lv_goto (tgt := 46) hx hb dX5_set_34 (by decide) ?_
  exact wl_Ri (bs := [moW cy a (su u 6 2 (nI 2))]) (r := 0) hx hb hr hlocks hAe hP hD hS (by exact ⟨rfl, rfl⟩) dX5_set_46
set_option maxHeartbeats 4000000 in
set_option maxRecDepth 100000 in
theorem r_X5_pulse (l : Launch) (D : va_G) (cy : Nat → ClassId) (a : Nat → Nat) (u : Nat → Nat → Int32) (i n b : Nat) (sz : Nat) (hi : 1 ≤ i ∧ i ≤ 20) (hn : u 0 49 = nI n) (hn2 : n < 120) (hsv : u 6 0 = nI b) (hsv2 : b ≤ 6) : Met l yX5_pulse wsX5_pulse ({ frames := 2, cells := 0, slots := 0, locals := 45 } : Room) (wl_ic D cy (fun _ => True) [moW cy a u] sz [.ref (a 0), .int (nI i)]) (va_Qi (fun (r : Int32) (bs : List va_W) => r = nI (n + 1) ∧ bs = [moW cy a (q_ap (q_sv (su u 6 2 (nI 0)) b) n (nI i))]) (wl_ib D [moW cy a u] sz) (va_A ([moW cy a u] : List va_W).flatten sz)) 0 0 (va_A ([moW cy a u] : List va_W).flatten sz) := by
  refine wl_ofI (cc := cX5_pulse) (maxL := 2) (ret := (some .int)) (by decide) rfl (Nat.le_of_ble_eq_true rfl) ?_
  intro p e s m below meth c ls A hx hb hr hts hown hlocks hml hnm hsz hAe hP hK hD hX hA hS hl
  have hl : lv_has ls 2 [(0, .ref (a 0)), (1, .int (nI i))] := hl
  have lkf7 := hts (.fieldLink RX5 7 "WireLampsModel" "z" "[I") (by decide +kernel)
  have in_X5 : ∀ w ∈ u_ws RX5 TX5 13, w ∈ wsX5_pulse := by decide +kernel
  refine lv_aload_n hx hb dX5_pulse_0 rfl (lv_at hl 0 rfl) ?_
  refine lv_iload_n hx hb dX5_pulse_1 rfl (lv_at hl 1 rfl) ?_
  refine lv_iconst (v := 1) hx hb dX5_pulse_2 (by decide) ?_
  refine lv_bipush (v := 20) hx hb dX5_pulse_3 (by decide) ?_
  refine wl_pS (As := [.int (nI i), .int 1, .int 20]) (rest := [.ref (a 0)]) ⟨hx, hb, hml, hown, hts⟩ (m_X5_in l D cy (nI i) 1 20 ) (va_cwS 3 hts gX5_pulse_X5_in rfl rfl rfl (by decide +kernel) ⟨Nat.le_of_ble_eq_true rfl, Nat.le_of_ble_eq_true rfl⟩) hK hP [] rfl rfl hl.1 rfl (Nat.le_of_ble_eq_true rfl) dX5_pulse_5 ⟨Nat.le_of_ble_eq_true rfl, Nat.le_of_ble_eq_true rfl⟩ (fun r1 er1 => ?_)
  have er1 : r1 = if (¬ (nI i) < 1 ∧ ¬ 20 < (nI i)) then 1 else 0 := er1
  refine wl_b_eq (tgt := 15) hx hb (¬ (nI i) < 1 ∧ ¬ 20 < (nI i)) er1 dX5_pulse_8 (by decide) (fun c2 => absurd (wl_rng3 (a := 1) (b := 20) rfl rfl hi.1 hi.2 (by decide)) c2) (fun c2 => ?_)
  refine lv_iconst (v := 0) hx hb dX5_pulse_11 (by decide) ?_
  refine lv_goto (tgt := 16) hx hb dX5_pulse_12 (by decide) ?_
  refine wl_iV (As := [.int 0]) (rest := []) (bsC := [moW cy a u]) (bsR := []) ⟨hx, hb, hml, hown, hts⟩ (m_X5_refused l D cy a u 0 s.heap.size (by omega)) (cwV 1 hts gX5_pulse_X5_refused rfl rfl rfl (by decide +kernel) ⟨Nat.le_of_ble_eq_true rfl, Nat.le_of_ble_eq_true rfl⟩) wl_xT (fun _ _ _ => trivial) hK hP hD hS hA rfl rfl rfl rfl rfl hl.1 rfl (Nat.le_of_ble_eq_true rfl) dX5_pulse_16 ⟨Nat.le_of_ble_eq_true rfl, Nat.le_of_ble_eq_true rfl⟩ (fun r3 bs4 H locs e5 _ _ hP hD hS => ?_)
  obtain ⟨er3, e5⟩ : r3 = (if (0 < 0) then 1 else 0) ∧ bs4 = [moW cy a (su u 6 2 (nI 0))] := e5
  subst e5
  have hP : va_P D vwCl ([moW cy a (su u 6 2 (nI 0))] : List va_W).flatten H := hP
  have hD : va_D A ([moW cy a (su u 6 2 (nI 0))] : List va_W).flatten := hD
  refine wl_b_eq (tgt := 24) hx hb (0 < 0) er3 dX5_pulse_19 (by decide) (fun c6 => ?_) (fun c6 => absurd c6 (by decide))
  refine lv_aload_n hx hb dX5_pulse_24 rfl (lv_at hl 0 rfl) ?_
  refine wl_iVv (As := []) (rest := []) (bsC := [moW cy a (su u 6 2 (nI 0))]) (bsR := []) ⟨hx, hb, hml, hown, hts⟩ (m_X5_saveState l D cy a (su u 6 2 (nI 0)) b H.size hsv (by omega)) (cwV 0 hts gX5_pulse_X5_saveState rfl rfl rfl (by decide +kernel) ⟨Nat.le_of_ble_eq_true rfl, Nat.le_of_ble_eq_true rfl⟩) wl_xT (fun _ _ _ => trivial) hK hP hD hS hA rfl rfl rfl rfl rfl hl.1 rfl (Nat.le_of_ble_eq_true rfl) dX5_pulse_25 ⟨Nat.le_of_ble_eq_true rfl, Nat.le_of_ble_eq_true rfl⟩ (fun bs7 H locs e8 _ _ hP hD hS => ?_)
  have e8 : bs7 = [moW cy a (q_sv (su u 6 2 (nI 0)) b)] := e8
  subst e8
  have hP : va_P D vwCl ([moW cy a (q_sv (su u 6 2 (nI 0)) b)] : List va_W).flatten H := hP
  have hD : va_D A ([moW cy a (q_sv (su u 6 2 (nI 0)) b)] : List va_W).flatten := hD
  refine lv_aload_n hx hb dX5_pulse_28 rfl (lv_at hl 0 rfl) ?_
  refine wl_getf (C := RX5) (T := TX5) (N := 13) (ci := 5) (v := .ref (a 1)) hx hb hts in_X5 hown hK hP 0 0 rfl rfl rfl 0 (by decide) lkf7 rfl rfl dX5_pulse_29 ?_
  refine lv_bipush (v := 49) hx hb dX5_pulse_32 (by decide) ?_
  refine wl_iald hx hb hK hP 0 1 rfl rfl 49 (by omega) (Nat.le_of_ble_eq_true rfl) dX5_pulse_34 ?_
  refine wl_top (y := nI n) hn ?_
  refine lv_bipush (v := 120) hx hb dX5_pulse_35 (by decide) ?_
  refine wl_icmp_ne (tgt := 53) hx hb n 120 dX5_pulse_37 (by decide) (by omega) (by omega) (fun c9 => ?_) (fun c9 => absurd c9 (by omega))
  refine lv_aload_n hx hb dX5_pulse_53 rfl (lv_at hl 0 rfl) ?_
  refine lv_iload_n hx hb dX5_pulse_54 rfl (lv_at hl 1 rfl) ?_
  refine wl_iVv (As := [.int (nI i)]) (rest := []) (bsC := [moW cy a (q_sv (su u 6 2 (nI 0)) b)]) (bsR := []) ⟨hx, hb, hml, hown, hts⟩ (m_X5_addPulse l D cy a (q_sv (su u 6 2 (nI 0)) b) (nI i) n H.size hn (by omega)) (cwV 1 hts gX5_pulse_X5_addPulse rfl rfl rfl (by decide +kernel) ⟨Nat.le_of_ble_eq_true rfl, Nat.le_of_ble_eq_true rfl⟩) wl_xT (fun _ _ _ => trivial) hK hP hD hS hA rfl rfl rfl rfl rfl hl.1 rfl (Nat.le_of_ble_eq_true rfl) dX5_pulse_55 ⟨Nat.le_of_ble_eq_true rfl, Nat.le_of_ble_eq_true rfl⟩ (fun bs10 H locs e11 _ _ hP hD hS => ?_)
  have e11 : bs10 = [moW cy a (q_ap (q_sv (su u 6 2 (nI 0)) b) n (nI i))] := e11
  subst e11
  have hP : va_P D vwCl ([moW cy a (q_ap (q_sv (su u 6 2 (nI 0)) b) n (nI i))] : List va_W).flatten H := hP
  have hD : va_D A ([moW cy a (q_ap (q_sv (su u 6 2 (nI 0)) b) n (nI i))] : List va_W).flatten := hD
  refine lv_aload_n hx hb dX5_pulse_58 rfl (lv_at hl 0 rfl) ?_
  refine wl_getf (C := RX5) (T := TX5) (N := 13) (ci := 5) (v := .ref (a 1)) hx hb hts in_X5 hown hK hP 0 0 rfl rfl rfl 0 (by decide) lkf7 rfl rfl dX5_pulse_59 ?_
  refine lv_bipush (v := 49) hx hb dX5_pulse_62 (by decide) ?_
  refine wl_iald hx hb hK hP 0 1 rfl rfl 49 (by omega) (Nat.le_of_ble_eq_true rfl) dX5_pulse_64 ?_
  refine wl_top (y := nI (n + 1)) rfl ?_
  exact wl_Ri (bs := [moW cy a (q_ap (q_sv (su u 6 2 (nI 0)) b) n (nI i))]) (r := (nI (n + 1))) hx hb hr hlocks hAe hP hD hS (by exact ⟨rfl, rfl⟩) dX5_pulse_65
set_option maxHeartbeats 4000000 in
set_option maxRecDepth 100000 in
theorem r_X5_pulseF (l : Launch) (D : va_G) (cy : Nat → ClassId) (a : Nat → Nat) (u : Nat → Nat → Int32) (i b : Nat) (sz : Nat) (hi : 1 ≤ i ∧ i ≤ 20) (hn : u 0 49 = nI 120) (hsv : u 6 0 = nI b) (hsv2 : b ≤ 6) : Met l yX5_pulse wsX5_pulse ({ frames := 2, cells := 0, slots := 0, locals := 45 } : Room) (wl_ic D cy (fun _ => True) [moW cy a u] sz [.ref (a 0), .int (nI i)]) (va_Qi (fun (r : Int32) (bs : List va_W) => r = -1 ∧ bs = [moW cy a (su (q_sv (su u 6 2 (nI 0)) b) 0 48 (zv (q_sv (su u 6 2 (nI 0)) b) 7 5 + 1))]) (wl_ib D [moW cy a u] sz) (va_A ([moW cy a u] : List va_W).flatten sz)) 0 0 (va_A ([moW cy a u] : List va_W).flatten sz) := by
  refine wl_ofI (cc := cX5_pulse) (maxL := 2) (ret := (some .int)) (by decide) rfl (Nat.le_of_ble_eq_true rfl) ?_
  intro p e s m below meth c ls A hx hb hr hts hown hlocks hml hnm hsz hAe hP hK hD hX hA hS hl
  have hl : lv_has ls 2 [(0, .ref (a 0)), (1, .int (nI i))] := hl
  have lkf7 := hts (.fieldLink RX5 7 "WireLampsModel" "z" "[I") (by decide +kernel)
  have in_X5 : ∀ w ∈ u_ws RX5 TX5 13, w ∈ wsX5_pulse := by decide +kernel
  refine lv_aload_n hx hb dX5_pulse_0 rfl (lv_at hl 0 rfl) ?_
  refine lv_iload_n hx hb dX5_pulse_1 rfl (lv_at hl 1 rfl) ?_
  refine lv_iconst (v := 1) hx hb dX5_pulse_2 (by decide) ?_
  refine lv_bipush (v := 20) hx hb dX5_pulse_3 (by decide) ?_
  refine wl_pS (As := [.int (nI i), .int 1, .int 20]) (rest := [.ref (a 0)]) ⟨hx, hb, hml, hown, hts⟩ (m_X5_in l D cy (nI i) 1 20 ) (va_cwS 3 hts gX5_pulse_X5_in rfl rfl rfl (by decide +kernel) ⟨Nat.le_of_ble_eq_true rfl, Nat.le_of_ble_eq_true rfl⟩) hK hP [] rfl rfl hl.1 rfl (Nat.le_of_ble_eq_true rfl) dX5_pulse_5 ⟨Nat.le_of_ble_eq_true rfl, Nat.le_of_ble_eq_true rfl⟩ (fun r1 er1 => ?_)
  have er1 : r1 = if (¬ (nI i) < 1 ∧ ¬ 20 < (nI i)) then 1 else 0 := er1
  refine wl_b_eq (tgt := 15) hx hb (¬ (nI i) < 1 ∧ ¬ 20 < (nI i)) er1 dX5_pulse_8 (by decide) (fun c2 => absurd (wl_rng3 (a := 1) (b := 20) rfl rfl hi.1 hi.2 (by decide)) c2) (fun c2 => ?_)
  refine lv_iconst (v := 0) hx hb dX5_pulse_11 (by decide) ?_
  refine lv_goto (tgt := 16) hx hb dX5_pulse_12 (by decide) ?_
  refine wl_iV (As := [.int 0]) (rest := []) (bsC := [moW cy a u]) (bsR := []) ⟨hx, hb, hml, hown, hts⟩ (m_X5_refused l D cy a u 0 s.heap.size (by omega)) (cwV 1 hts gX5_pulse_X5_refused rfl rfl rfl (by decide +kernel) ⟨Nat.le_of_ble_eq_true rfl, Nat.le_of_ble_eq_true rfl⟩) wl_xT (fun _ _ _ => trivial) hK hP hD hS hA rfl rfl rfl rfl rfl hl.1 rfl (Nat.le_of_ble_eq_true rfl) dX5_pulse_16 ⟨Nat.le_of_ble_eq_true rfl, Nat.le_of_ble_eq_true rfl⟩ (fun r3 bs4 H locs e5 _ _ hP hD hS => ?_)
  obtain ⟨er3, e5⟩ : r3 = (if (0 < 0) then 1 else 0) ∧ bs4 = [moW cy a (su u 6 2 (nI 0))] := e5
  subst e5
  have hP : va_P D vwCl ([moW cy a (su u 6 2 (nI 0))] : List va_W).flatten H := hP
  have hD : va_D A ([moW cy a (su u 6 2 (nI 0))] : List va_W).flatten := hD
  refine wl_b_eq (tgt := 24) hx hb (0 < 0) er3 dX5_pulse_19 (by decide) (fun c6 => ?_) (fun c6 => absurd c6 (by decide))
  refine lv_aload_n hx hb dX5_pulse_24 rfl (lv_at hl 0 rfl) ?_
  refine wl_iVv (As := []) (rest := []) (bsC := [moW cy a (su u 6 2 (nI 0))]) (bsR := []) ⟨hx, hb, hml, hown, hts⟩ (m_X5_saveState l D cy a (su u 6 2 (nI 0)) b H.size hsv (by omega)) (cwV 0 hts gX5_pulse_X5_saveState rfl rfl rfl (by decide +kernel) ⟨Nat.le_of_ble_eq_true rfl, Nat.le_of_ble_eq_true rfl⟩) wl_xT (fun _ _ _ => trivial) hK hP hD hS hA rfl rfl rfl rfl rfl hl.1 rfl (Nat.le_of_ble_eq_true rfl) dX5_pulse_25 ⟨Nat.le_of_ble_eq_true rfl, Nat.le_of_ble_eq_true rfl⟩ (fun bs7 H locs e8 _ _ hP hD hS => ?_)
  have e8 : bs7 = [moW cy a (q_sv (su u 6 2 (nI 0)) b)] := e8
  subst e8
  have hP : va_P D vwCl ([moW cy a (q_sv (su u 6 2 (nI 0)) b)] : List va_W).flatten H := hP
  have hD : va_D A ([moW cy a (q_sv (su u 6 2 (nI 0)) b)] : List va_W).flatten := hD
  refine lv_aload_n hx hb dX5_pulse_28 rfl (lv_at hl 0 rfl) ?_
  refine wl_getf (C := RX5) (T := TX5) (N := 13) (ci := 5) (v := .ref (a 1)) hx hb hts in_X5 hown hK hP 0 0 rfl rfl rfl 0 (by decide) lkf7 rfl rfl dX5_pulse_29 ?_
  refine lv_bipush (v := 49) hx hb dX5_pulse_32 (by decide) ?_
  refine wl_iald hx hb hK hP 0 1 rfl rfl 49 (by omega) (Nat.le_of_ble_eq_true rfl) dX5_pulse_34 ?_
  refine wl_top (y := nI 120) hn ?_
  refine lv_bipush (v := 120) hx hb dX5_pulse_35 (by decide) ?_
  refine wl_icmp_ne (tgt := 53) hx hb 120 120 dX5_pulse_37 (by decide) (by omega) (by omega) (fun c9 => absurd c9 (by decide)) (fun c9 => ?_)
  refine lv_aload_n hx hb dX5_pulse_40 rfl (lv_at hl 0 rfl) ?_
  refine wl_getf (C := RX5) (T := TX5) (N := 13) (ci := 5) (v := .ref (a 1)) hx hb hts in_X5 hown hK hP 0 0 rfl rfl rfl 0 (by decide) lkf7 rfl rfl dX5_pulse_41 ?_
  refine lv_bipush (v := 48) hx hb dX5_pulse_44 (by decide) ?_
  refine lv_dup2_11 hx hb dX5_pulse_46 rfl rfl ?_
  refine wl_iald hx hb hK hP 0 1 rfl rfl 48 (by omega) (Nat.le_of_ble_eq_true rfl) dX5_pulse_47 ?_
  refine wl_top (y := zv (q_sv (su u 6 2 (nI 0)) b) 7 5) rfl ?_
  refine lv_iconst (v := 1) hx hb dX5_pulse_48 (by decide) ?_
  refine lv_iadd hx hb dX5_pulse_49 ?_
  refine wl_iast hx hb hK hP hD hS 0 1 rfl rfl 48 (by omega) (Nat.le_of_ble_eq_true rfl) dX5_pulse_50 (fun H locs hP hD hS => ?_)
  have hP : va_P D vwCl ([moW cy a (su (q_sv (su u 6 2 (nI 0)) b) 0 48 ((zv (q_sv (su u 6 2 (nI 0)) b) 7 5) + 1))] : List va_W).flatten H := hP
  have hD : va_D A ([moW cy a (su (q_sv (su u 6 2 (nI 0)) b) 0 48 ((zv (q_sv (su u 6 2 (nI 0)) b) 7 5) + 1))] : List va_W).flatten := hD
  refine lv_iconst (v := (-1)) hx hb dX5_pulse_51 (by decide) ?_
  exact wl_Ri (bs := [moW cy a (su (q_sv (su u 6 2 (nI 0)) b) 0 48 ((zv (q_sv (su u 6 2 (nI 0)) b) 7 5) + 1))]) (r := (-1)) hx hb hr hlocks hAe hP hD hS (by exact ⟨rfl, rfl⟩) dX5_pulse_52
set_option maxHeartbeats 4000000 in
set_option maxRecDepth 100000 in
theorem r_X5_pulse1 (l : Launch) (D : va_G) (cy : Nat → ClassId) (a : Nat → Nat) (u : Nat → Nat → Int32) (y : Int32) (sz : Nat) (hx2 : ¬ (¬ y < 1 ∧ ¬ 20 < y)) : Met l yX5_pulse wsX5_pulse ({ frames := 1, cells := 0, slots := 0, locals := 22 } : Room) (wl_ic D cy (fun _ => True) [moW cy a u] sz [.ref (a 0), .int y]) (va_Qi (fun (r : Int32) (bs : List va_W) => r = 0 ∧ bs = [moW cy a (su u 6 2 (nI 1))]) (wl_ib D [moW cy a u] sz) (va_A ([moW cy a u] : List va_W).flatten sz)) 0 0 (va_A ([moW cy a u] : List va_W).flatten sz) := by
  refine wl_ofI (cc := cX5_pulse) (maxL := 2) (ret := (some .int)) (by decide) rfl (Nat.le_of_ble_eq_true rfl) ?_
  intro p e s m below meth c ls A hx hb hr hts hown hlocks hml hnm hsz hAe hP hK hD hX hA hS hl
  have hl : lv_has ls 2 [(0, .ref (a 0)), (1, .int y)] := hl
  refine lv_aload_n hx hb dX5_pulse_0 rfl (lv_at hl 0 rfl) ?_
  refine lv_iload_n hx hb dX5_pulse_1 rfl (lv_at hl 1 rfl) ?_
  refine lv_iconst (v := 1) hx hb dX5_pulse_2 (by decide) ?_
  refine lv_bipush (v := 20) hx hb dX5_pulse_3 (by decide) ?_
  refine wl_pS (As := [.int y, .int 1, .int 20]) (rest := [.ref (a 0)]) ⟨hx, hb, hml, hown, hts⟩ (m_X5_in l D cy y 1 20 ) (va_cwS 3 hts gX5_pulse_X5_in rfl rfl rfl (by decide +kernel) ⟨Nat.le_of_ble_eq_true rfl, Nat.le_of_ble_eq_true rfl⟩) hK hP [] rfl rfl hl.1 rfl (Nat.le_of_ble_eq_true rfl) dX5_pulse_5 ⟨Nat.le_of_ble_eq_true rfl, Nat.le_of_ble_eq_true rfl⟩ (fun r1 er1 => ?_)
  have er1 : r1 = if (¬ y < 1 ∧ ¬ 20 < y) then 1 else 0 := er1
  refine wl_b_eq (tgt := 15) hx hb (¬ y < 1 ∧ ¬ 20 < y) er1 dX5_pulse_8 (by decide) (fun c2 => ?_) (fun c2 => absurd c2 hx2)
  refine lv_iconst (v := 1) hx hb dX5_pulse_15 (by decide) ?_
  refine wl_iV (As := [.int 1]) (rest := []) (bsC := [moW cy a u]) (bsR := []) ⟨hx, hb, hml, hown, hts⟩ (m_X5_refused l D cy a u 1 s.heap.size (by omega)) (cwV 1 hts gX5_pulse_X5_refused rfl rfl rfl (by decide +kernel) ⟨Nat.le_of_ble_eq_true rfl, Nat.le_of_ble_eq_true rfl⟩) wl_xT (fun _ _ _ => trivial) hK hP hD hS hA rfl rfl rfl rfl rfl hl.1 rfl (Nat.le_of_ble_eq_true rfl) dX5_pulse_16 ⟨Nat.le_of_ble_eq_true rfl, Nat.le_of_ble_eq_true rfl⟩ (fun r3 bs4 H locs e5 _ _ hP hD hS => ?_)
  obtain ⟨er3, e5⟩ : r3 = (if (0 < 1) then 1 else 0) ∧ bs4 = [moW cy a (su u 6 2 (nI 1))] := e5
  subst e5
  have hP : va_P D vwCl ([moW cy a (su u 6 2 (nI 1))] : List va_W).flatten H := hP
  have hD : va_D A ([moW cy a (su u 6 2 (nI 1))] : List va_W).flatten := hD
  refine wl_b_eq (tgt := 24) hx hb (0 < 1) er3 dX5_pulse_19 (by decide) (fun c6 => absurd (by decide) c6) (fun c6 => ?_)
  refine lv_iconst (v := 0) hx hb dX5_pulse_22 (by decide) ?_
  exact wl_Ri (bs := [moW cy a (su u 6 2 (nI 1))]) (r := 0) hx hb hr hlocks hAe hP hD hS (by exact ⟨rfl, rfl⟩) dX5_pulse_23
set_option maxHeartbeats 4000000 in
set_option maxRecDepth 100000 in
theorem r_X5_send (l : Launch) (D : va_G) (cy : Nat → ClassId) (a : Nat → Nat) (u : Nat → Nat → Int32) (i n b : Nat) (sz : Nat) (hi : i ≤ 4095) (hn : u 0 49 = nI n) (hn2 : n + 12 ≤ 120) (hsv : u 6 0 = nI b) (hsv2 : b ≤ 6) : Met l yX5_send wsX5_send ({ frames := 2, cells := 0, slots := 0, locals := 45 } : Room) (wl_ic D cy (fun _ => True) [moW cy a u] sz [.ref (a 0), .int (nI i)]) (va_Qi (fun (r : Int32) (bs : List va_W) => r = nI (n + 12) ∧ bs = [moW cy a (q_sn (q_sv (su u 6 2 (nI 0)) b) n (nI i) 12)]) (wl_ib D [moW cy a u] sz) (va_A ([moW cy a u] : List va_W).flatten sz)) 0 0 (va_A ([moW cy a u] : List va_W).flatten sz) := by
  refine wl_ofI (cc := cX5_send) (maxL := 2) (ret := (some .int)) (by decide) rfl (Nat.le_of_ble_eq_true rfl) ?_
  intro p e s m below meth c ls A hx hb hr hts hown hlocks hml hnm hsz hAe hP hK hD hX hA hS hl
  have hl : lv_has ls 2 [(0, .ref (a 0)), (1, .int (nI i))] := hl
  have lkf7 := hts (.fieldLink RX5 7 "WireLampsModel" "z" "[I") (by decide +kernel)
  have in_X5 : ∀ w ∈ u_ws RX5 TX5 13, w ∈ wsX5_send := by decide +kernel
  refine lv_aload_n hx hb dX5_send_0 rfl (lv_at hl 0 rfl) ?_
  refine lv_iload_n hx hb dX5_send_1 rfl (lv_at hl 1 rfl) ?_
  refine lv_iconst (v := 0) hx hb dX5_send_2 (by decide) ?_
  refine lv_sipush (v := 4095) hx hb dX5_send_3 (by decide) ?_
  refine wl_pS (As := [.int (nI i), .int 0, .int 4095]) (rest := [.ref (a 0)]) ⟨hx, hb, hml, hown, hts⟩ (m_X5_in l D cy (nI i) 0 4095 ) (va_cwS 3 hts gX5_send_X5_in rfl rfl rfl (by decide +kernel) ⟨Nat.le_of_ble_eq_true rfl, Nat.le_of_ble_eq_true rfl⟩) hK hP [] rfl rfl hl.1 rfl (Nat.le_of_ble_eq_true rfl) dX5_send_6 ⟨Nat.le_of_ble_eq_true rfl, Nat.le_of_ble_eq_true rfl⟩ (fun r1 er1 => ?_)
  have er1 : r1 = if (¬ (nI i) < 0 ∧ ¬ 4095 < (nI i)) then 1 else 0 := er1
  refine wl_b_eq (tgt := 16) hx hb (¬ (nI i) < 0 ∧ ¬ 4095 < (nI i)) er1 dX5_send_9 (by decide) (fun c2 => absurd (wl_rng3 (a := 0) (b := 4095) rfl rfl (by omega) (by omega) (by decide)) c2) (fun c2 => ?_)
  refine lv_iconst (v := 0) hx hb dX5_send_12 (by decide) ?_
  refine lv_goto (tgt := 17) hx hb dX5_send_13 (by decide) ?_
  refine wl_iV (As := [.int 0]) (rest := []) (bsC := [moW cy a u]) (bsR := []) ⟨hx, hb, hml, hown, hts⟩ (m_X5_refused l D cy a u 0 s.heap.size (by omega)) (cwV 1 hts gX5_send_X5_refused rfl rfl rfl (by decide +kernel) ⟨Nat.le_of_ble_eq_true rfl, Nat.le_of_ble_eq_true rfl⟩) wl_xT (fun _ _ _ => trivial) hK hP hD hS hA rfl rfl rfl rfl rfl hl.1 rfl (Nat.le_of_ble_eq_true rfl) dX5_send_17 ⟨Nat.le_of_ble_eq_true rfl, Nat.le_of_ble_eq_true rfl⟩ (fun r3 bs4 H locs e5 _ _ hP hD hS => ?_)
  obtain ⟨er3, e5⟩ : r3 = (if (0 < 0) then 1 else 0) ∧ bs4 = [moW cy a (su u 6 2 (nI 0))] := e5
  subst e5
  have hP : va_P D vwCl ([moW cy a (su u 6 2 (nI 0))] : List va_W).flatten H := hP
  have hD : va_D A ([moW cy a (su u 6 2 (nI 0))] : List va_W).flatten := hD
  refine wl_b_eq (tgt := 25) hx hb (0 < 0) er3 dX5_send_20 (by decide) (fun c6 => ?_) (fun c6 => absurd c6 (by decide))
  refine lv_aload_n hx hb dX5_send_25 rfl (lv_at hl 0 rfl) ?_
  refine wl_iVv (As := []) (rest := []) (bsC := [moW cy a (su u 6 2 (nI 0))]) (bsR := []) ⟨hx, hb, hml, hown, hts⟩ (m_X5_saveState l D cy a (su u 6 2 (nI 0)) b H.size hsv (by omega)) (cwV 0 hts gX5_send_X5_saveState rfl rfl rfl (by decide +kernel) ⟨Nat.le_of_ble_eq_true rfl, Nat.le_of_ble_eq_true rfl⟩) wl_xT (fun _ _ _ => trivial) hK hP hD hS hA rfl rfl rfl rfl rfl hl.1 rfl (Nat.le_of_ble_eq_true rfl) dX5_send_26 ⟨Nat.le_of_ble_eq_true rfl, Nat.le_of_ble_eq_true rfl⟩ (fun bs7 H locs e8 _ _ hP hD hS => ?_)
  have e8 : bs7 = [moW cy a (q_sv (su u 6 2 (nI 0)) b)] := e8
  subst e8
  have hP : va_P D vwCl ([moW cy a (q_sv (su u 6 2 (nI 0)) b)] : List va_W).flatten H := hP
  have hD : va_D A ([moW cy a (q_sv (su u 6 2 (nI 0)) b)] : List va_W).flatten := hD
  refine lv_aload_n hx hb dX5_send_29 rfl (lv_at hl 0 rfl) ?_
  refine wl_getf (C := RX5) (T := TX5) (N := 13) (ci := 5) (v := .ref (a 1)) hx hb hts in_X5 hown hK hP 0 0 rfl rfl rfl 0 (by decide) lkf7 rfl rfl dX5_send_30 ?_
  refine lv_bipush (v := 49) hx hb dX5_send_33 (by decide) ?_
  refine wl_iald hx hb hK hP 0 1 rfl rfl 49 (by omega) (Nat.le_of_ble_eq_true rfl) dX5_send_35 ?_
  refine wl_top (y := nI n) hn ?_
  refine lv_bipush (v := 12) hx hb dX5_send_36 (by decide) ?_
  refine lv_iadd hx hb dX5_send_38 ?_
  refine wl_top (y := nI (n + 12)) (nI_add n 12) ?_
  refine lv_bipush (v := 120) hx hb dX5_send_39 (by decide) ?_
  refine wl_icmp_le (tgt := 57) hx hb (n + 12) 120 dX5_send_41 (by decide) (by omega) (by omega) (fun c9 => ?_) (fun c9 => absurd c9 (by omega))
  refine lv_aload_n hx hb dX5_send_57 rfl (lv_at hl 0 rfl) ?_
  refine lv_iload_n hx hb dX5_send_58 rfl (lv_at hl 1 rfl) ?_
  refine wl_iVv (As := [.int (nI i)]) (rest := []) (bsC := [moW cy a (q_sv (su u 6 2 (nI 0)) b)]) (bsR := []) ⟨hx, hb, hml, hown, hts⟩ (m_X5_sendNow l D cy a (q_sv (su u 6 2 (nI 0)) b) (nI i) n H.size hn (by omega)) (cwV 1 hts gX5_send_X5_sendNow rfl rfl rfl (by decide +kernel) ⟨Nat.le_of_ble_eq_true rfl, Nat.le_of_ble_eq_true rfl⟩) wl_xT (fun _ _ _ => trivial) hK hP hD hS hA rfl rfl rfl rfl rfl hl.1 rfl (Nat.le_of_ble_eq_true rfl) dX5_send_59 ⟨Nat.le_of_ble_eq_true rfl, Nat.le_of_ble_eq_true rfl⟩ (fun bs10 H locs e11 _ _ hP hD hS => ?_)
  have e11 : bs10 = [moW cy a (q_sn (q_sv (su u 6 2 (nI 0)) b) n (nI i) 12)] := e11
  subst e11
  have hP : va_P D vwCl ([moW cy a (q_sn (q_sv (su u 6 2 (nI 0)) b) n (nI i) 12)] : List va_W).flatten H := hP
  have hD : va_D A ([moW cy a (q_sn (q_sv (su u 6 2 (nI 0)) b) n (nI i) 12)] : List va_W).flatten := hD
  refine lv_aload_n hx hb dX5_send_62 rfl (lv_at hl 0 rfl) ?_
  refine wl_getf (C := RX5) (T := TX5) (N := 13) (ci := 5) (v := .ref (a 1)) hx hb hts in_X5 hown hK hP 0 0 rfl rfl rfl 0 (by decide) lkf7 rfl rfl dX5_send_63 ?_
  refine lv_bipush (v := 49) hx hb dX5_send_66 (by decide) ?_
  refine wl_iald hx hb hK hP 0 1 rfl rfl 49 (by omega) (Nat.le_of_ble_eq_true rfl) dX5_send_68 ?_
  refine wl_top (y := nI (n + 12)) (q_sn_cnt (u := (q_sv (su u 6 2 (nI 0)) b)) (n := n) (x := nI i) hn 12) ?_
  exact wl_Ri (bs := [moW cy a (q_sn (q_sv (su u 6 2 (nI 0)) b) n (nI i) 12)]) (r := (nI (n + 12))) hx hb hr hlocks hAe hP hD hS (by exact ⟨rfl, rfl⟩) dX5_send_69
set_option maxHeartbeats 4000000 in
set_option maxRecDepth 100000 in
theorem r_X5_sendF (l : Launch) (D : va_G) (cy : Nat → ClassId) (a : Nat → Nat) (u : Nat → Nat → Int32) (i n b : Nat) (sz : Nat) (hi : i ≤ 4095) (hf : ¬ n + 12 ≤ 120) (hn : u 0 49 = nI n) (hn2 : n ≤ 120) (hsv : u 6 0 = nI b) (hsv2 : b ≤ 6) : Met l yX5_send wsX5_send ({ frames := 2, cells := 0, slots := 0, locals := 45 } : Room) (wl_ic D cy (fun _ => True) [moW cy a u] sz [.ref (a 0), .int (nI i)]) (va_Qi (fun (r : Int32) (bs : List va_W) => r = -1 ∧ bs = [moW cy a (su (q_sv (su u 6 2 (nI 0)) b) 0 48 (zv (q_sv (su u 6 2 (nI 0)) b) 7 5 + 1))]) (wl_ib D [moW cy a u] sz) (va_A ([moW cy a u] : List va_W).flatten sz)) 0 0 (va_A ([moW cy a u] : List va_W).flatten sz) := by
  refine wl_ofI (cc := cX5_send) (maxL := 2) (ret := (some .int)) (by decide) rfl (Nat.le_of_ble_eq_true rfl) ?_
  intro p e s m below meth c ls A hx hb hr hts hown hlocks hml hnm hsz hAe hP hK hD hX hA hS hl
  have hl : lv_has ls 2 [(0, .ref (a 0)), (1, .int (nI i))] := hl
  have lkf7 := hts (.fieldLink RX5 7 "WireLampsModel" "z" "[I") (by decide +kernel)
  have in_X5 : ∀ w ∈ u_ws RX5 TX5 13, w ∈ wsX5_send := by decide +kernel
  refine lv_aload_n hx hb dX5_send_0 rfl (lv_at hl 0 rfl) ?_
  refine lv_iload_n hx hb dX5_send_1 rfl (lv_at hl 1 rfl) ?_
  refine lv_iconst (v := 0) hx hb dX5_send_2 (by decide) ?_
  refine lv_sipush (v := 4095) hx hb dX5_send_3 (by decide) ?_
  refine wl_pS (As := [.int (nI i), .int 0, .int 4095]) (rest := [.ref (a 0)]) ⟨hx, hb, hml, hown, hts⟩ (m_X5_in l D cy (nI i) 0 4095 ) (va_cwS 3 hts gX5_send_X5_in rfl rfl rfl (by decide +kernel) ⟨Nat.le_of_ble_eq_true rfl, Nat.le_of_ble_eq_true rfl⟩) hK hP [] rfl rfl hl.1 rfl (Nat.le_of_ble_eq_true rfl) dX5_send_6 ⟨Nat.le_of_ble_eq_true rfl, Nat.le_of_ble_eq_true rfl⟩ (fun r1 er1 => ?_)
  have er1 : r1 = if (¬ (nI i) < 0 ∧ ¬ 4095 < (nI i)) then 1 else 0 := er1
  refine wl_b_eq (tgt := 16) hx hb (¬ (nI i) < 0 ∧ ¬ 4095 < (nI i)) er1 dX5_send_9 (by decide) (fun c2 => absurd (wl_rng3 (a := 0) (b := 4095) rfl rfl (by omega) (by omega) (by decide)) c2) (fun c2 => ?_)
  refine lv_iconst (v := 0) hx hb dX5_send_12 (by decide) ?_
  refine lv_goto (tgt := 17) hx hb dX5_send_13 (by decide) ?_
  refine wl_iV (As := [.int 0]) (rest := []) (bsC := [moW cy a u]) (bsR := []) ⟨hx, hb, hml, hown, hts⟩ (m_X5_refused l D cy a u 0 s.heap.size (by omega)) (cwV 1 hts gX5_send_X5_refused rfl rfl rfl (by decide +kernel) ⟨Nat.le_of_ble_eq_true rfl, Nat.le_of_ble_eq_true rfl⟩) wl_xT (fun _ _ _ => trivial) hK hP hD hS hA rfl rfl rfl rfl rfl hl.1 rfl (Nat.le_of_ble_eq_true rfl) dX5_send_17 ⟨Nat.le_of_ble_eq_true rfl, Nat.le_of_ble_eq_true rfl⟩ (fun r3 bs4 H locs e5 _ _ hP hD hS => ?_)
  obtain ⟨er3, e5⟩ : r3 = (if (0 < 0) then 1 else 0) ∧ bs4 = [moW cy a (su u 6 2 (nI 0))] := e5
  subst e5
  have hP : va_P D vwCl ([moW cy a (su u 6 2 (nI 0))] : List va_W).flatten H := hP
  have hD : va_D A ([moW cy a (su u 6 2 (nI 0))] : List va_W).flatten := hD
  refine wl_b_eq (tgt := 25) hx hb (0 < 0) er3 dX5_send_20 (by decide) (fun c6 => ?_) (fun c6 => absurd c6 (by decide))
  refine lv_aload_n hx hb dX5_send_25 rfl (lv_at hl 0 rfl) ?_
  refine wl_iVv (As := []) (rest := []) (bsC := [moW cy a (su u 6 2 (nI 0))]) (bsR := []) ⟨hx, hb, hml, hown, hts⟩ (m_X5_saveState l D cy a (su u 6 2 (nI 0)) b H.size hsv (by omega)) (cwV 0 hts gX5_send_X5_saveState rfl rfl rfl (by decide +kernel) ⟨Nat.le_of_ble_eq_true rfl, Nat.le_of_ble_eq_true rfl⟩) wl_xT (fun _ _ _ => trivial) hK hP hD hS hA rfl rfl rfl rfl rfl hl.1 rfl (Nat.le_of_ble_eq_true rfl) dX5_send_26 ⟨Nat.le_of_ble_eq_true rfl, Nat.le_of_ble_eq_true rfl⟩ (fun bs7 H locs e8 _ _ hP hD hS => ?_)
  have e8 : bs7 = [moW cy a (q_sv (su u 6 2 (nI 0)) b)] := e8
  subst e8
  have hP : va_P D vwCl ([moW cy a (q_sv (su u 6 2 (nI 0)) b)] : List va_W).flatten H := hP
  have hD : va_D A ([moW cy a (q_sv (su u 6 2 (nI 0)) b)] : List va_W).flatten := hD
  refine lv_aload_n hx hb dX5_send_29 rfl (lv_at hl 0 rfl) ?_
  refine wl_getf (C := RX5) (T := TX5) (N := 13) (ci := 5) (v := .ref (a 1)) hx hb hts in_X5 hown hK hP 0 0 rfl rfl rfl 0 (by decide) lkf7 rfl rfl dX5_send_30 ?_
  refine lv_bipush (v := 49) hx hb dX5_send_33 (by decide) ?_
  refine wl_iald hx hb hK hP 0 1 rfl rfl 49 (by omega) (Nat.le_of_ble_eq_true rfl) dX5_send_35 ?_
  refine wl_top (y := nI n) hn ?_
  refine lv_bipush (v := 12) hx hb dX5_send_36 (by decide) ?_
  refine lv_iadd hx hb dX5_send_38 ?_
  refine wl_top (y := nI (n + 12)) (nI_add n 12) ?_
  refine lv_bipush (v := 120) hx hb dX5_send_39 (by decide) ?_
  refine wl_icmp_le (tgt := 57) hx hb (n + 12) 120 dX5_send_41 (by decide) (by omega) (by omega) (fun c9 => absurd c9 (by omega)) (fun c9 => ?_)
  refine lv_aload_n hx hb dX5_send_44 rfl (lv_at hl 0 rfl) ?_
  refine wl_getf (C := RX5) (T := TX5) (N := 13) (ci := 5) (v := .ref (a 1)) hx hb hts in_X5 hown hK hP 0 0 rfl rfl rfl 0 (by decide) lkf7 rfl rfl dX5_send_45 ?_
  refine lv_bipush (v := 48) hx hb dX5_send_48 (by decide) ?_
  refine lv_dup2_11 hx hb dX5_send_50 rfl rfl ?_
  refine wl_iald hx hb hK hP 0 1 rfl rfl 48 (by omega) (Nat.le_of_ble_eq_true rfl) dX5_send_51 ?_
  refine wl_top (y := zv (q_sv (su u 6 2 (nI 0)) b) 7 5) rfl ?_
  refine lv_iconst (v := 1) hx hb dX5_send_52 (by decide) ?_
  refine lv_iadd hx hb dX5_send_53 ?_
  refine wl_iast hx hb hK hP hD hS 0 1 rfl rfl 48 (by omega) (Nat.le_of_ble_eq_true rfl) dX5_send_54 (fun H locs hP hD hS => ?_)
  have hP : va_P D vwCl ([moW cy a (su (q_sv (su u 6 2 (nI 0)) b) 0 48 ((zv (q_sv (su u 6 2 (nI 0)) b) 7 5) + 1))] : List va_W).flatten H := hP
  have hD : va_D A ([moW cy a (su (q_sv (su u 6 2 (nI 0)) b) 0 48 ((zv (q_sv (su u 6 2 (nI 0)) b) 7 5) + 1))] : List va_W).flatten := hD
  refine lv_iconst (v := (-1)) hx hb dX5_send_55 (by decide) ?_
  exact wl_Ri (bs := [moW cy a (su (q_sv (su u 6 2 (nI 0)) b) 0 48 ((zv (q_sv (su u 6 2 (nI 0)) b) 7 5) + 1))]) (r := (-1)) hx hb hr hlocks hAe hP hD hS (by exact ⟨rfl, rfl⟩) dX5_send_56
set_option maxHeartbeats 4000000 in
set_option maxRecDepth 100000 in
theorem r_X5_send1 (l : Launch) (D : va_G) (cy : Nat → ClassId) (a : Nat → Nat) (u : Nat → Nat → Int32) (y : Int32) (sz : Nat) (hx2 : ¬ (¬ y < 0 ∧ ¬ 4095 < y)) : Met l yX5_send wsX5_send ({ frames := 1, cells := 0, slots := 0, locals := 22 } : Room) (wl_ic D cy (fun _ => True) [moW cy a u] sz [.ref (a 0), .int y]) (va_Qi (fun (r : Int32) (bs : List va_W) => r = 0 ∧ bs = [moW cy a (su u 6 2 (nI 1))]) (wl_ib D [moW cy a u] sz) (va_A ([moW cy a u] : List va_W).flatten sz)) 0 0 (va_A ([moW cy a u] : List va_W).flatten sz) := by
  refine wl_ofI (cc := cX5_send) (maxL := 2) (ret := (some .int)) (by decide) rfl (Nat.le_of_ble_eq_true rfl) ?_
  intro p e s m below meth c ls A hx hb hr hts hown hlocks hml hnm hsz hAe hP hK hD hX hA hS hl
  have hl : lv_has ls 2 [(0, .ref (a 0)), (1, .int y)] := hl
  refine lv_aload_n hx hb dX5_send_0 rfl (lv_at hl 0 rfl) ?_
  refine lv_iload_n hx hb dX5_send_1 rfl (lv_at hl 1 rfl) ?_
  refine lv_iconst (v := 0) hx hb dX5_send_2 (by decide) ?_
  refine lv_sipush (v := 4095) hx hb dX5_send_3 (by decide) ?_
  refine wl_pS (As := [.int y, .int 0, .int 4095]) (rest := [.ref (a 0)]) ⟨hx, hb, hml, hown, hts⟩ (m_X5_in l D cy y 0 4095 ) (va_cwS 3 hts gX5_send_X5_in rfl rfl rfl (by decide +kernel) ⟨Nat.le_of_ble_eq_true rfl, Nat.le_of_ble_eq_true rfl⟩) hK hP [] rfl rfl hl.1 rfl (Nat.le_of_ble_eq_true rfl) dX5_send_6 ⟨Nat.le_of_ble_eq_true rfl, Nat.le_of_ble_eq_true rfl⟩ (fun r1 er1 => ?_)
  have er1 : r1 = if (¬ y < 0 ∧ ¬ 4095 < y) then 1 else 0 := er1
  refine wl_b_eq (tgt := 16) hx hb (¬ y < 0 ∧ ¬ 4095 < y) er1 dX5_send_9 (by decide) (fun c2 => ?_) (fun c2 => absurd c2 hx2)
  refine lv_iconst (v := 1) hx hb dX5_send_16 (by decide) ?_
  refine wl_iV (As := [.int 1]) (rest := []) (bsC := [moW cy a u]) (bsR := []) ⟨hx, hb, hml, hown, hts⟩ (m_X5_refused l D cy a u 1 s.heap.size (by omega)) (cwV 1 hts gX5_send_X5_refused rfl rfl rfl (by decide +kernel) ⟨Nat.le_of_ble_eq_true rfl, Nat.le_of_ble_eq_true rfl⟩) wl_xT (fun _ _ _ => trivial) hK hP hD hS hA rfl rfl rfl rfl rfl hl.1 rfl (Nat.le_of_ble_eq_true rfl) dX5_send_17 ⟨Nat.le_of_ble_eq_true rfl, Nat.le_of_ble_eq_true rfl⟩ (fun r3 bs4 H locs e5 _ _ hP hD hS => ?_)
  obtain ⟨er3, e5⟩ : r3 = (if (0 < 1) then 1 else 0) ∧ bs4 = [moW cy a (su u 6 2 (nI 1))] := e5
  subst e5
  have hP : va_P D vwCl ([moW cy a (su u 6 2 (nI 1))] : List va_W).flatten H := hP
  have hD : va_D A ([moW cy a (su u 6 2 (nI 1))] : List va_W).flatten := hD
  refine wl_b_eq (tgt := 25) hx hb (0 < 1) er3 dX5_send_20 (by decide) (fun c6 => absurd (by decide) c6) (fun c6 => ?_)
  refine lv_iconst (v := 0) hx hb dX5_send_23 (by decide) ?_
  exact wl_Ri (bs := [moW cy a (su u 6 2 (nI 1))]) (r := 0) hx hb hr hlocks hAe hP hD hS (by exact ⟨rfl, rfl⟩) dX5_send_24
set_option maxHeartbeats 4000000 in
set_option maxRecDepth 100000 in
theorem r_X5_gap (l : Launch) (D : va_G) (cy : Nat → ClassId) (a : Nat → Nat) (u : Nat → Nat → Int32) (n b : Nat) (sz : Nat) (hn : u 0 49 = nI n) (hn2 : n ≤ 120) (hsv : u 6 0 = nI b) (hsv2 : b ≤ 6) : Met l yX5_gap wsX5_gap ({ frames := 6, cells := 0, slots := 0, locals := 135 } : Room) (wl_ic D cy (fun _ => True) [moW cy a u] sz [.ref (a 0)]) (va_Qi (fun (r : Int32) (bs : List va_W) => r = q_gc (su (q_sv (su u 6 2 0) b) 6 3 (-1)) n 8 ∧ bs = [moW cy a (q_gq (q_sv (su u 6 2 0) b) n)]) (wl_ib D [moW cy a u] sz) (va_A ([moW cy a u] : List va_W).flatten sz)) 0 0 (va_A ([moW cy a u] : List va_W).flatten sz) := by
  refine wl_ofI (cc := cX5_gap) (maxL := 1) (ret := (some .int)) (by decide) rfl (Nat.le_of_ble_eq_true rfl) ?_
  intro p e s m below meth c ls A hx hb hr hts hown hlocks hml hnm hsz hAe hP hK hD hX hA hS hl
  have hl : lv_has ls 1 [(0, .ref (a 0))] := hl
  have lkf33 := hts (.fieldLink RX5 33 "WireLampsModel" "thrown" "I") (by decide +kernel)
  have in_X5 : ∀ w ∈ u_ws RX5 TX5 13, w ∈ wsX5_gap := by decide +kernel
  refine lv_aload_n hx hb dX5_gap_0 rfl (lv_at hl 0 rfl) ?_
  refine lv_iconst (v := 0) hx hb dX5_gap_1 (by decide) ?_
  refine wl_putf (C := RX5) (T := TX5) (N := 13) (ci := 5) (v := .int 0) hx hb hts in_X5 tyX5 tyX5_ok nmX5 hown hK hP hD hS 0 0 rfl rfl rfl 7 (by decide) lkf33 rfl rfl rfl rfl (Nat.le_of_ble_eq_true rfl) dX5_gap_2 (fun H locs hP hD hS => ?_)
  have hP : va_P D vwCl ([moW cy a (su u 6 2 0)] : List va_W).flatten H := hP
  have hD : va_D A ([moW cy a (su u 6 2 0)] : List va_W).flatten := hD
  refine lv_aload_n hx hb dX5_gap_5 rfl (lv_at hl 0 rfl) ?_
  refine wl_iVv (As := []) (rest := []) (bsC := [moW cy a (su u 6 2 0)]) (bsR := []) ⟨hx, hb, hml, hown, hts⟩ (m_X5_saveState l D cy a (su u 6 2 0) b H.size hsv (by omega)) (cwV 0 hts gX5_gap_X5_saveState rfl rfl rfl (by decide +kernel) ⟨Nat.le_of_ble_eq_true rfl, Nat.le_of_ble_eq_true rfl⟩) wl_xT (fun _ _ _ => trivial) hK hP hD hS hA rfl rfl rfl rfl rfl hl.1 rfl (Nat.le_of_ble_eq_true rfl) dX5_gap_6 ⟨Nat.le_of_ble_eq_true rfl, Nat.le_of_ble_eq_true rfl⟩ (fun bs1 H locs e2 _ _ hP hD hS => ?_)
  have e2 : bs1 = [moW cy a (q_sv (su u 6 2 0) b)] := e2
  subst e2
  have hP : va_P D vwCl ([moW cy a (q_sv (su u 6 2 0) b)] : List va_W).flatten H := hP
  have hD : va_D A ([moW cy a (q_sv (su u 6 2 0) b)] : List va_W).flatten := hD
  refine lv_aload_n hx hb dX5_gap_9 rfl (lv_at hl 0 rfl) ?_
  refine wl_iV (As := []) (rest := []) (bsC := [moW cy a (q_sv (su u 6 2 0) b)]) (bsR := []) ⟨hx, hb, hml, hown, hts⟩ (m_X5_gapNow l D cy a (q_sv (su u 6 2 0) b) n H.size hn (by omega)) (cwV 0 hts gX5_gap_X5_gapNow rfl rfl rfl (by decide +kernel) ⟨Nat.le_of_ble_eq_true rfl, Nat.le_of_ble_eq_true rfl⟩) wl_xT (fun _ _ _ => trivial) hK hP hD hS hA rfl rfl rfl rfl rfl hl.1 rfl (Nat.le_of_ble_eq_true rfl) dX5_gap_10 ⟨Nat.le_of_ble_eq_true rfl, Nat.le_of_ble_eq_true rfl⟩ (fun r3 bs4 H locs e5 _ _ hP hD hS => ?_)
  obtain ⟨er3, e5⟩ : r3 = q_gc (su (q_sv (su u 6 2 0) b) 6 3 (-1)) n 8 ∧ bs4 = [moW cy a (q_gq (q_sv (su u 6 2 0) b) n)] := e5
  subst e5
  subst er3
  have hP : va_P D vwCl ([moW cy a (q_gq (q_sv (su u 6 2 0) b) n)] : List va_W).flatten H := hP
  have hD : va_D A ([moW cy a (q_gq (q_sv (su u 6 2 0) b) n)] : List va_W).flatten := hD
  exact wl_Ri (bs := [moW cy a (q_gq (q_sv (su u 6 2 0) b) n)]) (r := (q_gc (su (q_sv (su u 6 2 0) b) 6 3 (-1)) n 8)) hx hb hr hlocks hAe hP hD hS (by exact ⟨rfl, rfl⟩) dX5_gap_13
set_option maxHeartbeats 4000000 in
set_option maxRecDepth 100000 in
theorem r_X5_drop (l : Launch) (D : va_G) (cy : Nat → ClassId) (a : Nat → Nat) (u : Nat → Nat → Int32) (n b : Nat) (sz : Nat) (hn : u 0 49 = nI n) (hn2 : n ≤ 120) (hsv : u 6 0 = nI b) (hsv2 : b ≤ 6) : Met l yX5_drop wsX5_drop ({ frames := 2, cells := 0, slots := 0, locals := 45 } : Room) (wl_ic D cy (fun _ => True) [moW cy a u] sz [.ref (a 0)]) (va_Qi (fun (r : Int32) (bs : List va_W) => r = nI n ∧ bs = [moW cy a (q_emf (su (q_sv (su u 6 2 0) b) 0 47 (zv (q_sv (su u 6 2 0) b) 7 4 + nI n)))]) (wl_ib D [moW cy a u] sz) (va_A ([moW cy a u] : List va_W).flatten sz)) 0 0 (va_A ([moW cy a u] : List va_W).flatten sz) := by
  refine wl_ofI (cc := cX5_drop) (maxL := 2) (ret := (some .int)) (by decide) rfl (Nat.le_of_ble_eq_true rfl) ?_
  intro p e s m below meth c ls A hx hb hr hts hown hlocks hml hnm hsz hAe hP hK hD hX hA hS hl
  have hl : lv_has ls 2 [(0, .ref (a 0))] := hl
  have lkf33 := hts (.fieldLink RX5 33 "WireLampsModel" "thrown" "I") (by decide +kernel)
  have lkf7 := hts (.fieldLink RX5 7 "WireLampsModel" "z" "[I") (by decide +kernel)
  have in_X5 : ∀ w ∈ u_ws RX5 TX5 13, w ∈ wsX5_drop := by decide +kernel
  refine lv_aload_n hx hb dX5_drop_0 rfl (lv_at hl 0 rfl) ?_
  refine lv_iconst (v := 0) hx hb dX5_drop_1 (by decide) ?_
  refine wl_putf (C := RX5) (T := TX5) (N := 13) (ci := 5) (v := .int 0) hx hb hts in_X5 tyX5 tyX5_ok nmX5 hown hK hP hD hS 0 0 rfl rfl rfl 7 (by decide) lkf33 rfl rfl rfl rfl (Nat.le_of_ble_eq_true rfl) dX5_drop_2 (fun H locs hP hD hS => ?_)
  have hP : va_P D vwCl ([moW cy a (su u 6 2 0)] : List va_W).flatten H := hP
  have hD : va_D A ([moW cy a (su u 6 2 0)] : List va_W).flatten := hD
  refine lv_aload_n hx hb dX5_drop_5 rfl (lv_at hl 0 rfl) ?_
  refine wl_iVv (As := []) (rest := []) (bsC := [moW cy a (su u 6 2 0)]) (bsR := []) ⟨hx, hb, hml, hown, hts⟩ (m_X5_saveState l D cy a (su u 6 2 0) b H.size hsv (by omega)) (cwV 0 hts gX5_drop_X5_saveState rfl rfl rfl (by decide +kernel) ⟨Nat.le_of_ble_eq_true rfl, Nat.le_of_ble_eq_true rfl⟩) wl_xT (fun _ _ _ => trivial) hK hP hD hS hA rfl rfl rfl rfl rfl hl.1 rfl (Nat.le_of_ble_eq_true rfl) dX5_drop_6 ⟨Nat.le_of_ble_eq_true rfl, Nat.le_of_ble_eq_true rfl⟩ (fun bs1 H locs e2 _ _ hP hD hS => ?_)
  have e2 : bs1 = [moW cy a (q_sv (su u 6 2 0) b)] := e2
  subst e2
  have hP : va_P D vwCl ([moW cy a (q_sv (su u 6 2 0) b)] : List va_W).flatten H := hP
  have hD : va_D A ([moW cy a (q_sv (su u 6 2 0) b)] : List va_W).flatten := hD
  refine lv_aload_n hx hb dX5_drop_9 rfl (lv_at hl 0 rfl) ?_
  refine wl_getf (C := RX5) (T := TX5) (N := 13) (ci := 5) (v := .ref (a 1)) hx hb hts in_X5 hown hK hP 0 0 rfl rfl rfl 0 (by decide) lkf7 rfl rfl dX5_drop_10 ?_
  refine lv_bipush (v := 49) hx hb dX5_drop_13 (by decide) ?_
  refine wl_iald hx hb hK hP 0 1 rfl rfl 49 (by omega) (Nat.le_of_ble_eq_true rfl) dX5_drop_15 ?_
  refine wl_top (y := nI n) hn ?_
  refine lv_istore_n (lv' := [(1, .int (nI n)), (0, .ref (a 0))]) hx hb dX5_drop_16 rfl hl (by decide) rfl (fun ls hl => ?_)
  refine lv_aload_n hx hb dX5_drop_17 rfl (lv_at hl 1 rfl) ?_
  refine wl_getf (C := RX5) (T := TX5) (N := 13) (ci := 5) (v := .ref (a 1)) hx hb hts in_X5 hown hK hP 0 0 rfl rfl rfl 0 (by decide) lkf7 rfl rfl dX5_drop_18 ?_
  refine lv_bipush (v := 47) hx hb dX5_drop_21 (by decide) ?_
  refine lv_dup2_11 hx hb dX5_drop_23 rfl rfl ?_
  refine wl_iald hx hb hK hP 0 1 rfl rfl 47 (by omega) (Nat.le_of_ble_eq_true rfl) dX5_drop_24 ?_
  refine wl_top (y := zv (q_sv (su u 6 2 0) b) 7 4) rfl ?_
  refine lv_iload_n hx hb dX5_drop_25 rfl (lv_at hl 0 rfl) ?_
  refine lv_iadd hx hb dX5_drop_26 ?_
  refine wl_iast hx hb hK hP hD hS 0 1 rfl rfl 47 (by omega) (Nat.le_of_ble_eq_true rfl) dX5_drop_27 (fun H locs hP hD hS => ?_)
  have hP : va_P D vwCl ([moW cy a (su (q_sv (su u 6 2 0) b) 0 47 ((zv (q_sv (su u 6 2 0) b) 7 4) + (nI n)))] : List va_W).flatten H := hP
  have hD : va_D A ([moW cy a (su (q_sv (su u 6 2 0) b) 0 47 ((zv (q_sv (su u 6 2 0) b) 7 4) + (nI n)))] : List va_W).flatten := hD
  refine lv_aload_n hx hb dX5_drop_28 rfl (lv_at hl 1 rfl) ?_
  refine wl_iVv (As := []) (rest := []) (bsC := [moW cy a (su (q_sv (su u 6 2 0) b) 0 47 ((zv (q_sv (su u 6 2 0) b) 7 4) + (nI n)))]) (bsR := []) ⟨hx, hb, hml, hown, hts⟩ (m_X5_emptyFrame l D cy a (su (q_sv (su u 6 2 0) b) 0 47 ((zv (q_sv (su u 6 2 0) b) 7 4) + (nI n))) H.size ) (cwV 0 hts gX5_drop_X5_emptyFrame rfl rfl rfl (by decide +kernel) ⟨Nat.le_of_ble_eq_true rfl, Nat.le_of_ble_eq_true rfl⟩) wl_xT (fun _ _ _ => trivial) hK hP hD hS hA rfl rfl rfl rfl rfl hl.1 rfl (Nat.le_of_ble_eq_true rfl) dX5_drop_29 ⟨Nat.le_of_ble_eq_true rfl, Nat.le_of_ble_eq_true rfl⟩ (fun bs3 H locs e4 _ _ hP hD hS => ?_)
  have e4 : bs3 = [moW cy a (q_emf (su (q_sv (su u 6 2 0) b) 0 47 ((zv (q_sv (su u 6 2 0) b) 7 4) + (nI n))))] := e4
  subst e4
  have hP : va_P D vwCl ([moW cy a (q_emf (su (q_sv (su u 6 2 0) b) 0 47 ((zv (q_sv (su u 6 2 0) b) 7 4) + (nI n))))] : List va_W).flatten H := hP
  have hD : va_D A ([moW cy a (q_emf (su (q_sv (su u 6 2 0) b) 0 47 ((zv (q_sv (su u 6 2 0) b) 7 4) + (nI n))))] : List va_W).flatten := hD
  refine lv_iload_n hx hb dX5_drop_32 rfl (lv_at hl 0 rfl) ?_
  exact wl_Ri (bs := [moW cy a (q_emf (su (q_sv (su u 6 2 0) b) 0 47 ((zv (q_sv (su u 6 2 0) b) 7 4) + (nI n))))]) (r := (nI n)) hx hb hr hlocks hAe hP hD hS (by exact ⟨rfl, rfl⟩) dX5_drop_33
set_option maxHeartbeats 4000000 in
set_option maxRecDepth 100000 in
theorem r_X5_clearBuffer (l : Launch) (D : va_G) (cy : Nat → ClassId) (a : Nat → Nat) (u : Nat → Nat → Int32) (sz : Nat)  : Met l yX5_clearBuffer wsX5_clearBuffer ({ frames := 0, cells := 0, slots := 0, locals := 0 } : Room) (wl_ic D cy (fun _ => True) [moW cy a u] sz [.ref (a 0)]) (va_Qi (fun (r : Int32) (bs : List va_W) => r = u 6 1 ∧ bs = [moW cy a (su (su u 6 2 0) 6 1 0)]) (wl_ib D [moW cy a u] sz) (va_A ([moW cy a u] : List va_W).flatten sz)) 0 0 (va_A ([moW cy a u] : List va_W).flatten sz) := by
  refine wl_ofI (cc := cX5_clearBuffer) (maxL := 2) (ret := (some .int)) (by decide) rfl (Nat.le_of_ble_eq_true rfl) ?_
  intro p e s m below meth c ls A hx hb hr hts hown hlocks hml hnm hsz hAe hP hK hD hX hA hS hl
  have hl : lv_has ls 2 [(0, .ref (a 0))] := hl
  have lkf113 := hts (.fieldLink RX5 113 "WireLampsModel" "length" "I") (by decide +kernel)
  have lkf33 := hts (.fieldLink RX5 33 "WireLampsModel" "thrown" "I") (by decide +kernel)
  have in_X5 : ∀ w ∈ u_ws RX5 TX5 13, w ∈ wsX5_clearBuffer := by decide +kernel
  refine lv_aload_n hx hb dX5_clearBuffer_0 rfl (lv_at hl 0 rfl) ?_
  refine lv_iconst (v := 0) hx hb dX5_clearBuffer_1 (by decide) ?_
  refine wl_putf (C := RX5) (T := TX5) (N := 13) (ci := 5) (v := .int 0) hx hb hts in_X5 tyX5 tyX5_ok nmX5 hown hK hP hD hS 0 0 rfl rfl rfl 7 (by decide) lkf33 rfl rfl rfl rfl (Nat.le_of_ble_eq_true rfl) dX5_clearBuffer_2 (fun H locs hP hD hS => ?_)
  have hP : va_P D vwCl ([moW cy a (su u 6 2 0)] : List va_W).flatten H := hP
  have hD : va_D A ([moW cy a (su u 6 2 0)] : List va_W).flatten := hD
  refine lv_aload_n hx hb dX5_clearBuffer_5 rfl (lv_at hl 0 rfl) ?_
  refine wl_getf (C := RX5) (T := TX5) (N := 13) (ci := 5) (v := .int (u 6 1)) hx hb hts in_X5 hown hK hP 0 0 rfl rfl rfl 6 (by decide) lkf113 rfl rfl dX5_clearBuffer_6 ?_
  refine wl_top (y := u 6 1) rfl ?_
  refine lv_istore_n (lv' := [(1, .int (u 6 1)), (0, .ref (a 0))]) hx hb dX5_clearBuffer_9 rfl hl (by decide) rfl (fun ls hl => ?_)
  refine lv_aload_n hx hb dX5_clearBuffer_10 rfl (lv_at hl 1 rfl) ?_
  refine lv_iconst (v := 0) hx hb dX5_clearBuffer_11 (by decide) ?_
  refine wl_putf (C := RX5) (T := TX5) (N := 13) (ci := 5) (v := .int 0) hx hb hts in_X5 tyX5 tyX5_ok nmX5 hown hK hP hD hS 0 0 rfl rfl rfl 6 (by decide) lkf113 rfl rfl rfl rfl (Nat.le_of_ble_eq_true rfl) dX5_clearBuffer_12 (fun H locs hP hD hS => ?_)
  have hP : va_P D vwCl ([moW cy a (su (su u 6 2 0) 6 1 0)] : List va_W).flatten H := hP
  have hD : va_D A ([moW cy a (su (su u 6 2 0) 6 1 0)] : List va_W).flatten := hD
  refine lv_iload_n hx hb dX5_clearBuffer_15 rfl (lv_at hl 0 rfl) ?_
  exact wl_Ri (bs := [moW cy a (su (su u 6 2 0) 6 1 0)]) (r := (u 6 1)) hx hb hr hlocks hAe hP hD hS (by exact ⟨rfl, rfl⟩) dX5_clearBuffer_16
set_option maxHeartbeats 4000000 in
set_option maxRecDepth 100000 in
theorem r_X5_append (l : Launch) (D : va_G) (cy : Nat → ClassId) (a : Nat → Nat) (u : Nat → Nat → Int32) (i k : Nat) (sz : Nat) (hi : 33 ≤ i ∧ i ≤ 126) (hkk : u 6 1 = nI k) (hk2 : k < 60) : Met l yX5_append wsX5_append ({ frames := 1, cells := 0, slots := 0, locals := 22 } : Room) (wl_ic D cy (fun _ => True) [moW cy a u] sz [.ref (a 0), .int (nI i)]) (va_Qi (fun (r : Int32) (bs : List va_W) => r = nI (k + 1) ∧ bs = [moW cy a (su (su (su u 6 2 (nI 0)) 4 k (nI i)) 6 1 (nI (k + 1)))]) (wl_ib D [moW cy a u] sz) (va_A ([moW cy a u] : List va_W).flatten sz)) 0 0 (va_A ([moW cy a u] : List va_W).flatten sz) := by
  refine wl_ofI (cc := cX5_append) (maxL := 2) (ret := (some .int)) (by decide) rfl (Nat.le_of_ble_eq_true rfl) ?_
  intro p e s m below meth c ls A hx hb hr hts hown hlocks hml hnm hsz hAe hP hK hD hX hA hS hl
  have hl : lv_has ls 2 [(0, .ref (a 0)), (1, .int (nI i))] := hl
  have lkf113 := hts (.fieldLink RX5 113 "WireLampsModel" "length" "I") (by decide +kernel)
  have lkf23 := hts (.fieldLink RX5 23 "WireLampsModel" "text" "[I") (by decide +kernel)
  have in_X5 : ∀ w ∈ u_ws RX5 TX5 13, w ∈ wsX5_append := by decide +kernel
  refine lv_aload_n hx hb dX5_append_0 rfl (lv_at hl 0 rfl) ?_
  refine lv_iload_n hx hb dX5_append_1 rfl (lv_at hl 1 rfl) ?_
  refine lv_bipush (v := 33) hx hb dX5_append_2 (by decide) ?_
  refine lv_bipush (v := 126) hx hb dX5_append_4 (by decide) ?_
  refine wl_pS (As := [.int (nI i), .int 33, .int 126]) (rest := [.ref (a 0)]) ⟨hx, hb, hml, hown, hts⟩ (m_X5_in l D cy (nI i) 33 126 ) (va_cwS 3 hts gX5_append_X5_in rfl rfl rfl (by decide +kernel) ⟨Nat.le_of_ble_eq_true rfl, Nat.le_of_ble_eq_true rfl⟩) hK hP [] rfl rfl hl.1 rfl (Nat.le_of_ble_eq_true rfl) dX5_append_6 ⟨Nat.le_of_ble_eq_true rfl, Nat.le_of_ble_eq_true rfl⟩ (fun r1 er1 => ?_)
  have er1 : r1 = if (¬ (nI i) < 33 ∧ ¬ 126 < (nI i)) then 1 else 0 := er1
  refine wl_b_ne (tgt := 16) hx hb (¬ (nI i) < 33 ∧ ¬ 126 < (nI i)) er1 dX5_append_9 (by decide) (fun c2 => ?_) (fun c2 => absurd (wl_rng3 (a := 33) (b := 126) rfl rfl hi.1 hi.2 (by decide)) c2)
  refine lv_aload_n hx hb dX5_append_16 rfl (lv_at hl 0 rfl) ?_
  refine wl_getf (C := RX5) (T := TX5) (N := 13) (ci := 5) (v := .int (u 6 1)) hx hb hts in_X5 hown hK hP 0 0 rfl rfl rfl 6 (by decide) lkf113 rfl rfl dX5_append_17 ?_
  refine wl_top (y := nI k) hkk ?_
  refine lv_bipush (v := 60) hx hb dX5_append_20 (by decide) ?_
  refine wl_icmp_ne (tgt := 29) hx hb k 60 dX5_append_22 (by decide) (by omega) (by omega) (fun c3 => ?_) (fun c3 => absurd c3 (by omega))
  refine lv_iconst (v := 0) hx hb dX5_append_29 (by decide) ?_
  refine wl_iV (As := [.int 0]) (rest := []) (bsC := [moW cy a u]) (bsR := []) ⟨hx, hb, hml, hown, hts⟩ (m_X5_refused l D cy a u 0 s.heap.size (by omega)) (cwV 1 hts gX5_append_X5_refused rfl rfl rfl (by decide +kernel) ⟨Nat.le_of_ble_eq_true rfl, Nat.le_of_ble_eq_true rfl⟩) wl_xT (fun _ _ _ => trivial) hK hP hD hS hA rfl rfl rfl rfl rfl hl.1 rfl (Nat.le_of_ble_eq_true rfl) dX5_append_30 ⟨Nat.le_of_ble_eq_true rfl, Nat.le_of_ble_eq_true rfl⟩ (fun r4 bs5 H locs e6 _ _ hP hD hS => ?_)
  obtain ⟨er4, e6⟩ : r4 = (if (0 < 0) then 1 else 0) ∧ bs5 = [moW cy a (su u 6 2 (nI 0))] := e6
  subst e6
  have hP : va_P D vwCl ([moW cy a (su u 6 2 (nI 0))] : List va_W).flatten H := hP
  have hD : va_D A ([moW cy a (su u 6 2 (nI 0))] : List va_W).flatten := hD
  refine wl_b_eq (tgt := 38) hx hb (0 < 0) er4 dX5_append_33 (by decide) (fun c7 => ?_) (fun c7 => absurd c7 (by decide))
  refine lv_aload_n hx hb dX5_append_38 rfl (lv_at hl 0 rfl) ?_
  refine wl_getf (C := RX5) (T := TX5) (N := 13) (ci := 5) (v := .ref (a 5)) hx hb hts in_X5 hown hK hP 0 0 rfl rfl rfl 5 (by decide) lkf23 rfl rfl dX5_append_39 ?_
  refine lv_aload_n hx hb dX5_append_42 rfl (lv_at hl 0 rfl) ?_
  refine wl_getf (C := RX5) (T := TX5) (N := 13) (ci := 5) (v := .int ((su u 6 2 (nI 0)) 6 1)) hx hb hts in_X5 hown hK hP 0 0 rfl rfl rfl 6 (by decide) lkf113 rfl rfl dX5_append_43 ?_
  refine wl_top (y := nI k) hkk ?_
  refine lv_iload_n hx hb dX5_append_46 rfl (lv_at hl 1 rfl) ?_
  refine wl_iast hx hb hK hP hD hS 0 5 rfl rfl k (by omega) (Nat.le_of_ble_eq_true rfl) dX5_append_47 (fun H locs hP hD hS => ?_)
  have hP : va_P D vwCl ([moW cy a (su (su u 6 2 (nI 0)) 4 k (nI i))] : List va_W).flatten H := hP
  have hD : va_D A ([moW cy a (su (su u 6 2 (nI 0)) 4 k (nI i))] : List va_W).flatten := hD
  refine lv_aload_n hx hb dX5_append_48 rfl (lv_at hl 0 rfl) ?_
  refine lv_dup hx hb dX5_append_49 rfl ?_
  refine wl_getf (C := RX5) (T := TX5) (N := 13) (ci := 5) (v := .int ((su u 6 2 (nI 0)) 6 1)) hx hb hts in_X5 hown hK hP 0 0 rfl rfl rfl 6 (by decide) lkf113 rfl rfl dX5_append_50 ?_
  refine wl_top (y := nI k) hkk ?_
  refine lv_iconst (v := 1) hx hb dX5_append_53 (by decide) ?_
  refine lv_iadd hx hb dX5_append_54 ?_
  refine wl_top (y := nI (k + 1)) (nI_add k 1) ?_
  refine wl_putf (C := RX5) (T := TX5) (N := 13) (ci := 5) (v := .int (nI (k + 1))) hx hb hts in_X5 tyX5 tyX5_ok nmX5 hown hK hP hD hS 0 0 rfl rfl rfl 6 (by decide) lkf113 rfl rfl rfl rfl (Nat.le_of_ble_eq_true rfl) dX5_append_55 (fun H locs hP hD hS => ?_)
  have hP : va_P D vwCl ([moW cy a (su (su (su u 6 2 (nI 0)) 4 k (nI i)) 6 1 (nI (k + 1)))] : List va_W).flatten H := hP
  have hD : va_D A ([moW cy a (su (su (su u 6 2 (nI 0)) 4 k (nI i)) 6 1 (nI (k + 1)))] : List va_W).flatten := hD
  refine lv_aload_n hx hb dX5_append_58 rfl (lv_at hl 0 rfl) ?_
  refine wl_getf (C := RX5) (T := TX5) (N := 13) (ci := 5) (v := .int (nI (k + 1))) hx hb hts in_X5 hown hK hP 0 0 rfl rfl rfl 6 (by decide) lkf113 rfl rfl dX5_append_59 ?_
  exact wl_Ri (bs := [moW cy a (su (su (su u 6 2 (nI 0)) 4 k (nI i)) 6 1 (nI (k + 1)))]) (r := (nI (k + 1))) hx hb hr hlocks hAe hP hD hS (by exact ⟨rfl, rfl⟩) dX5_append_62
set_option maxHeartbeats 4000000 in
set_option maxRecDepth 100000 in
theorem r_X5_append1 (l : Launch) (D : va_G) (cy : Nat → ClassId) (a : Nat → Nat) (u : Nat → Nat → Int32) (y : Int32) (sz : Nat) (hx2 : ¬ (¬ y < 33 ∧ ¬ 126 < y)) : Met l yX5_append wsX5_append ({ frames := 1, cells := 0, slots := 0, locals := 22 } : Room) (wl_ic D cy (fun _ => True) [moW cy a u] sz [.ref (a 0), .int y]) (va_Qi (fun (r : Int32) (bs : List va_W) => r = 0 ∧ bs = [moW cy a (su u 6 2 (nI 1))]) (wl_ib D [moW cy a u] sz) (va_A ([moW cy a u] : List va_W).flatten sz)) 0 0 (va_A ([moW cy a u] : List va_W).flatten sz) := by
  refine wl_ofI (cc := cX5_append) (maxL := 2) (ret := (some .int)) (by decide) rfl (Nat.le_of_ble_eq_true rfl) ?_
  intro p e s m below meth c ls A hx hb hr hts hown hlocks hml hnm hsz hAe hP hK hD hX hA hS hl
  have hl : lv_has ls 2 [(0, .ref (a 0)), (1, .int y)] := hl
  refine lv_aload_n hx hb dX5_append_0 rfl (lv_at hl 0 rfl) ?_
  refine lv_iload_n hx hb dX5_append_1 rfl (lv_at hl 1 rfl) ?_
  refine lv_bipush (v := 33) hx hb dX5_append_2 (by decide) ?_
  refine lv_bipush (v := 126) hx hb dX5_append_4 (by decide) ?_
  refine wl_pS (As := [.int y, .int 33, .int 126]) (rest := [.ref (a 0)]) ⟨hx, hb, hml, hown, hts⟩ (m_X5_in l D cy y 33 126 ) (va_cwS 3 hts gX5_append_X5_in rfl rfl rfl (by decide +kernel) ⟨Nat.le_of_ble_eq_true rfl, Nat.le_of_ble_eq_true rfl⟩) hK hP [] rfl rfl hl.1 rfl (Nat.le_of_ble_eq_true rfl) dX5_append_6 ⟨Nat.le_of_ble_eq_true rfl, Nat.le_of_ble_eq_true rfl⟩ (fun r1 er1 => ?_)
  have er1 : r1 = if (¬ y < 33 ∧ ¬ 126 < y) then 1 else 0 := er1
  refine wl_b_ne (tgt := 16) hx hb (¬ y < 33 ∧ ¬ 126 < y) er1 dX5_append_9 (by decide) (fun c2 => absurd c2 hx2) (fun c2 => ?_)
  refine lv_iconst (v := 1) hx hb dX5_append_12 (by decide) ?_
  refine lv_goto (tgt := 30) hx hb dX5_append_13 (by decide) ?_
  refine wl_iV (As := [.int 1]) (rest := []) (bsC := [moW cy a u]) (bsR := []) ⟨hx, hb, hml, hown, hts⟩ (m_X5_refused l D cy a u 1 s.heap.size (by omega)) (cwV 1 hts gX5_append_X5_refused rfl rfl rfl (by decide +kernel) ⟨Nat.le_of_ble_eq_true rfl, Nat.le_of_ble_eq_true rfl⟩) wl_xT (fun _ _ _ => trivial) hK hP hD hS hA rfl rfl rfl rfl rfl hl.1 rfl (Nat.le_of_ble_eq_true rfl) dX5_append_30 ⟨Nat.le_of_ble_eq_true rfl, Nat.le_of_ble_eq_true rfl⟩ (fun r3 bs4 H locs e5 _ _ hP hD hS => ?_)
  obtain ⟨er3, e5⟩ : r3 = (if (0 < 1) then 1 else 0) ∧ bs4 = [moW cy a (su u 6 2 (nI 1))] := e5
  subst e5
  have hP : va_P D vwCl ([moW cy a (su u 6 2 (nI 1))] : List va_W).flatten H := hP
  have hD : va_D A ([moW cy a (su u 6 2 (nI 1))] : List va_W).flatten := hD
  refine wl_b_eq (tgt := 38) hx hb (0 < 1) er3 dX5_append_33 (by decide) (fun c6 => absurd (by decide) c6) (fun c6 => ?_)
  refine lv_iconst (v := 0) hx hb dX5_append_36 (by decide) ?_
  exact wl_Ri (bs := [moW cy a (su u 6 2 (nI 1))]) (r := 0) hx hb hr hlocks hAe hP hD hS (by exact ⟨rfl, rfl⟩) dX5_append_37
set_option maxHeartbeats 4000000 in
set_option maxRecDepth 100000 in
theorem r_X5_append2 (l : Launch) (D : va_G) (cy : Nat → ClassId) (a : Nat → Nat) (u : Nat → Nat → Int32) (i : Nat) (sz : Nat) (hi : 33 ≤ i ∧ i ≤ 126) (hkk : u 6 1 = nI 60) : Met l yX5_append wsX5_append ({ frames := 1, cells := 0, slots := 0, locals := 22 } : Room) (wl_ic D cy (fun _ => True) [moW cy a u] sz [.ref (a 0), .int (nI i)]) (va_Qi (fun (r : Int32) (bs : List va_W) => r = 0 ∧ bs = [moW cy a (su u 6 2 (nI 2))]) (wl_ib D [moW cy a u] sz) (va_A ([moW cy a u] : List va_W).flatten sz)) 0 0 (va_A ([moW cy a u] : List va_W).flatten sz) := by
  refine wl_ofI (cc := cX5_append) (maxL := 2) (ret := (some .int)) (by decide) rfl (Nat.le_of_ble_eq_true rfl) ?_
  intro p e s m below meth c ls A hx hb hr hts hown hlocks hml hnm hsz hAe hP hK hD hX hA hS hl
  have hl : lv_has ls 2 [(0, .ref (a 0)), (1, .int (nI i))] := hl
  have lkf113 := hts (.fieldLink RX5 113 "WireLampsModel" "length" "I") (by decide +kernel)
  have in_X5 : ∀ w ∈ u_ws RX5 TX5 13, w ∈ wsX5_append := by decide +kernel
  refine lv_aload_n hx hb dX5_append_0 rfl (lv_at hl 0 rfl) ?_
  refine lv_iload_n hx hb dX5_append_1 rfl (lv_at hl 1 rfl) ?_
  refine lv_bipush (v := 33) hx hb dX5_append_2 (by decide) ?_
  refine lv_bipush (v := 126) hx hb dX5_append_4 (by decide) ?_
  refine wl_pS (As := [.int (nI i), .int 33, .int 126]) (rest := [.ref (a 0)]) ⟨hx, hb, hml, hown, hts⟩ (m_X5_in l D cy (nI i) 33 126 ) (va_cwS 3 hts gX5_append_X5_in rfl rfl rfl (by decide +kernel) ⟨Nat.le_of_ble_eq_true rfl, Nat.le_of_ble_eq_true rfl⟩) hK hP [] rfl rfl hl.1 rfl (Nat.le_of_ble_eq_true rfl) dX5_append_6 ⟨Nat.le_of_ble_eq_true rfl, Nat.le_of_ble_eq_true rfl⟩ (fun r1 er1 => ?_)
  have er1 : r1 = if (¬ (nI i) < 33 ∧ ¬ 126 < (nI i)) then 1 else 0 := er1
  refine wl_b_ne (tgt := 16) hx hb (¬ (nI i) < 33 ∧ ¬ 126 < (nI i)) er1 dX5_append_9 (by decide) (fun c2 => ?_) (fun c2 => absurd (wl_rng3 (a := 33) (b := 126) rfl rfl hi.1 hi.2 (by decide)) c2)
  refine lv_aload_n hx hb dX5_append_16 rfl (lv_at hl 0 rfl) ?_
  refine wl_getf (C := RX5) (T := TX5) (N := 13) (ci := 5) (v := .int (u 6 1)) hx hb hts in_X5 hown hK hP 0 0 rfl rfl rfl 6 (by decide) lkf113 rfl rfl dX5_append_17 ?_
  refine wl_top (y := nI 60) hkk ?_
  refine lv_bipush (v := 60) hx hb dX5_append_20 (by decide) ?_
  refine wl_icmp_ne (tgt := 29) hx hb 60 60 dX5_append_22 (by decide) (by omega) (by omega) (fun c3 => absurd c3 (by decide)) (fun c3 => ?_)
  refine lv_iconst (v := 2) hx hb dX5_append_25 (by decide) ?_
  refine lv_goto (tgt := 30) hx hb dX5_append_26 (by decide) ?_
  refine wl_iV (As := [.int 2]) (rest := []) (bsC := [moW cy a u]) (bsR := []) ⟨hx, hb, hml, hown, hts⟩ (m_X5_refused l D cy a u 2 s.heap.size (by omega)) (cwV 1 hts gX5_append_X5_refused rfl rfl rfl (by decide +kernel) ⟨Nat.le_of_ble_eq_true rfl, Nat.le_of_ble_eq_true rfl⟩) wl_xT (fun _ _ _ => trivial) hK hP hD hS hA rfl rfl rfl rfl rfl hl.1 rfl (Nat.le_of_ble_eq_true rfl) dX5_append_30 ⟨Nat.le_of_ble_eq_true rfl, Nat.le_of_ble_eq_true rfl⟩ (fun r4 bs5 H locs e6 _ _ hP hD hS => ?_)
  obtain ⟨er4, e6⟩ : r4 = (if (0 < 2) then 1 else 0) ∧ bs5 = [moW cy a (su u 6 2 (nI 2))] := e6
  subst e6
  have hP : va_P D vwCl ([moW cy a (su u 6 2 (nI 2))] : List va_W).flatten H := hP
  have hD : va_D A ([moW cy a (su u 6 2 (nI 2))] : List va_W).flatten := hD
  refine wl_b_eq (tgt := 38) hx hb (0 < 2) er4 dX5_append_33 (by decide) (fun c7 => absurd (by decide) c7) (fun c7 => ?_)
  refine lv_iconst (v := 0) hx hb dX5_append_36 (by decide) ?_
  exact wl_Ri (bs := [moW cy a (su u 6 2 (nI 2))]) (r := 0) hx hb hr hlocks hAe hP hD hS (by exact ⟨rfl, rfl⟩) dX5_append_37
set_option maxHeartbeats 4000000 in
set_option maxRecDepth 100000 in
theorem r_X5_keep (l : Launch) (D : va_G) (cy : Nat → ClassId) (a : Nat → Nat) (u : Nat → Nat → Int32) (i : Nat) (sz : Nat) (hi : i < 2) : Met l yX5_keep wsX5_keep ({ frames := 1, cells := 0, slots := 0, locals := 24 } : Room) (wl_ic D cy (fun _ => True) [moW cy a u] sz [.ref (a 0), .int (nI i)]) (va_Qi (fun (r : Int32) (bs : List va_W) => r = zv u 7 0 ∧ bs = [moW cy a (su (sf (su u 6 2 (nI 0)) 2 (q_cp ((su u 6 2 (nI 0)) 0) ((su u 6 2 (nI 0)) 2) 0 (170 * i) 170)) 3 i 1)]) (wl_ib D [moW cy a u] sz) (va_A ([moW cy a u] : List va_W).flatten sz)) 0 0 (va_A ([moW cy a u] : List va_W).flatten sz) := by
  refine wl_ofI (cc := cX5_keep) (maxL := 2) (ret := (some .int)) (by decide) rfl (Nat.le_of_ble_eq_true rfl) ?_
  intro p e s m below meth c ls A hx hb hr hts hown hlocks hml hnm hsz hAe hP hK hD hX hA hS hl
  have hl : lv_has ls 2 [(0, .ref (a 0)), (1, .int (nI i))] := hl
  have lkf16 := hts (.fieldLink RX5 16 "WireLampsModel" "slots" "[I") (by decide +kernel)
  have lkf19 := hts (.fieldLink RX5 19 "WireLampsModel" "isKept" "[Z") (by decide +kernel)
  have lkf7 := hts (.fieldLink RX5 7 "WireLampsModel" "z" "[I") (by decide +kernel)
  have in_X5 : ∀ w ∈ u_ws RX5 TX5 13, w ∈ wsX5_keep := by decide +kernel
  refine lv_aload_n hx hb dX5_keep_0 rfl (lv_at hl 0 rfl) ?_
  refine lv_iload_n hx hb dX5_keep_1 rfl (lv_at hl 1 rfl) ?_
  refine lv_iconst (v := 0) hx hb dX5_keep_2 (by decide) ?_
  refine lv_iconst (v := 1) hx hb dX5_keep_3 (by decide) ?_
  refine wl_pS (As := [.int (nI i), .int 0, .int 1]) (rest := [.ref (a 0)]) ⟨hx, hb, hml, hown, hts⟩ (m_X5_in l D cy (nI i) 0 1 ) (va_cwS 3 hts gX5_keep_X5_in rfl rfl rfl (by decide +kernel) ⟨Nat.le_of_ble_eq_true rfl, Nat.le_of_ble_eq_true rfl⟩) hK hP [] rfl rfl hl.1 rfl (Nat.le_of_ble_eq_true rfl) dX5_keep_4 ⟨Nat.le_of_ble_eq_true rfl, Nat.le_of_ble_eq_true rfl⟩ (fun r1 er1 => ?_)
  have er1 : r1 = if (¬ (nI i) < 0 ∧ ¬ 1 < (nI i)) then 1 else 0 := er1
  refine wl_b_eq (tgt := 14) hx hb (¬ (nI i) < 0 ∧ ¬ 1 < (nI i)) er1 dX5_keep_7 (by decide) (fun c2 => absurd (wl_rng3 (a := 0) (b := 1) rfl rfl (by omega) (by omega) (by decide)) c2) (fun c2 => ?_)
  refine lv_iconst (v := 0) hx hb dX5_keep_10 (by decide) ?_
  refine lv_goto (tgt := 15) hx hb dX5_keep_11 (by decide) ?_
  refine wl_iV (As := [.int 0]) (rest := []) (bsC := [moW cy a u]) (bsR := []) ⟨hx, hb, hml, hown, hts⟩ (m_X5_refused l D cy a u 0 s.heap.size (by omega)) (cwV 1 hts gX5_keep_X5_refused rfl rfl rfl (by decide +kernel) ⟨Nat.le_of_ble_eq_true rfl, Nat.le_of_ble_eq_true rfl⟩) wl_xT (fun _ _ _ => trivial) hK hP hD hS hA rfl rfl rfl rfl rfl hl.1 rfl (Nat.le_of_ble_eq_true rfl) dX5_keep_15 ⟨Nat.le_of_ble_eq_true rfl, Nat.le_of_ble_eq_true rfl⟩ (fun r3 bs4 H locs e5 _ _ hP hD hS => ?_)
  obtain ⟨er3, e5⟩ : r3 = (if (0 < 0) then 1 else 0) ∧ bs4 = [moW cy a (su u 6 2 (nI 0))] := e5
  subst e5
  have hP : va_P D vwCl ([moW cy a (su u 6 2 (nI 0))] : List va_W).flatten H := hP
  have hD : va_D A ([moW cy a (su u 6 2 (nI 0))] : List va_W).flatten := hD
  refine wl_b_eq (tgt := 23) hx hb (0 < 0) er3 dX5_keep_18 (by decide) (fun c6 => ?_) (fun c6 => absurd c6 (by decide))
  refine lv_aload_n hx hb dX5_keep_23 rfl (lv_at hl 0 rfl) ?_
  refine wl_getf (C := RX5) (T := TX5) (N := 13) (ci := 5) (v := .ref (a 1)) hx hb hts in_X5 hown hK hP 0 0 rfl rfl rfl 0 (by decide) lkf7 rfl rfl dX5_keep_24 ?_
  refine lv_iconst (v := 0) hx hb dX5_keep_27 (by decide) ?_
  refine lv_aload_n hx hb dX5_keep_28 rfl (lv_at hl 0 rfl) ?_
  refine wl_getf (C := RX5) (T := TX5) (N := 13) (ci := 5) (v := .ref (a 3)) hx hb hts in_X5 hown hK hP 0 0 rfl rfl rfl 3 (by decide) lkf16 rfl rfl dX5_keep_29 ?_
  refine lv_sipush (v := 170) hx hb dX5_keep_32 (by decide) ?_
  refine lv_iload_n hx hb dX5_keep_35 rfl (lv_at hl 1 rfl) ?_
  refine lv_imul hx hb dX5_keep_36 ?_
  refine wl_top (y := nI (170 * i)) (pk_mul 170 i) ?_
  refine wl_iSv (As := [.ref (a 1), .int 0, .ref (a 3), .int (nI (170 * i))]) (rest := []) (bsC := [moW cy a (su u 6 2 (nI 0))]) (bsR := []) ⟨hx, hb, hml, hown, hts⟩ (m_X5_copyState_zK l D cy a (su u 6 2 (nI 0)) (170 * i) H.size (by omega)) (va_cwS 4 hts gX5_keep_X5_copyState rfl rfl rfl (by decide +kernel) ⟨Nat.le_of_ble_eq_true rfl, Nat.le_of_ble_eq_true rfl⟩) wl_xT (fun _ _ _ => trivial) hK hP hD hS hA rfl hl.1 rfl (Nat.le_of_ble_eq_true rfl) dX5_keep_37 ⟨Nat.le_of_ble_eq_true rfl, Nat.le_of_ble_eq_true rfl⟩ (fun bs7 H locs e8 _ _ hP hD hS => ?_)
  have e8 : bs7 = [moW cy a (sf (su u 6 2 (nI 0)) 2 (q_cp ((su u 6 2 (nI 0)) 0) ((su u 6 2 (nI 0)) 2) 0 (170 * i) 170))] := e8
  subst e8
  have hP : va_P D vwCl ([moW cy a (sf (su u 6 2 (nI 0)) 2 (q_cp ((su u 6 2 (nI 0)) 0) ((su u 6 2 (nI 0)) 2) 0 (170 * i) 170))] : List va_W).flatten H := hP
  have hD : va_D A ([moW cy a (sf (su u 6 2 (nI 0)) 2 (q_cp ((su u 6 2 (nI 0)) 0) ((su u 6 2 (nI 0)) 2) 0 (170 * i) 170))] : List va_W).flatten := hD
  refine lv_aload_n hx hb dX5_keep_40 rfl (lv_at hl 0 rfl) ?_
  refine wl_getf (C := RX5) (T := TX5) (N := 13) (ci := 5) (v := .ref (a 4)) hx hb hts in_X5 hown hK hP 0 0 rfl rfl rfl 4 (by decide) lkf19 rfl rfl dX5_keep_41 ?_
  refine lv_iload_n hx hb dX5_keep_44 rfl (lv_at hl 1 rfl) ?_
  refine lv_iconst (v := 1) hx hb dX5_keep_45 (by decide) ?_
  refine wl_zast hx hb hK hP hD hS 0 4 rfl rfl i (by omega) (Nat.le_of_ble_eq_true rfl) (rfl) dX5_keep_46 (fun H locs hP hD hS => ?_)
  have hP : va_P D vwCl ([moW cy a (su (sf (su u 6 2 (nI 0)) 2 (q_cp ((su u 6 2 (nI 0)) 0) ((su u 6 2 (nI 0)) 2) 0 (170 * i) 170)) 3 i 1)] : List va_W).flatten H := hP
  have hD : va_D A ([moW cy a (su (sf (su u 6 2 (nI 0)) 2 (q_cp ((su u 6 2 (nI 0)) 0) ((su u 6 2 (nI 0)) 2) 0 (170 * i) 170)) 3 i 1)] : List va_W).flatten := hD
  refine lv_aload_n hx hb dX5_keep_47 rfl (lv_at hl 0 rfl) ?_
  refine wl_getf (C := RX5) (T := TX5) (N := 13) (ci := 5) (v := .ref (a 1)) hx hb hts in_X5 hown hK hP 0 0 rfl rfl rfl 0 (by decide) lkf7 rfl rfl dX5_keep_48 ?_
  refine lv_bipush (v := 49) hx hb dX5_keep_51 (by decide) ?_
  refine wl_iald hx hb hK hP 0 1 rfl rfl 49 (by omega) (Nat.le_of_ble_eq_true rfl) dX5_keep_53 ?_
  refine wl_top (y := zv (su (sf (su u 6 2 (nI 0)) 2 (q_cp ((su u 6 2 (nI 0)) 0) ((su u 6 2 (nI 0)) 2) 0 (170 * i) 170)) 3 i 1) 7 0) rfl ?_
  exact wl_Ri (bs := [moW cy a (su (sf (su u 6 2 (nI 0)) 2 (q_cp ((su u 6 2 (nI 0)) 0) ((su u 6 2 (nI 0)) 2) 0 (170 * i) 170)) 3 i 1)]) (r := (zv (su (sf (su u 6 2 (nI 0)) 2 (q_cp ((su u 6 2 (nI 0)) 0) ((su u 6 2 (nI 0)) 2) 0 (170 * i) 170)) 3 i 1) 7 0)) hx hb hr hlocks hAe hP hD hS (by exact ⟨rfl, rfl⟩) dX5_keep_54
set_option maxHeartbeats 4000000 in
set_option maxRecDepth 100000 in
theorem r_X5_keep1 (l : Launch) (D : va_G) (cy : Nat → ClassId) (a : Nat → Nat) (u : Nat → Nat → Int32) (y : Int32) (sz : Nat) (hx2 : ¬ (¬ y < 0 ∧ ¬ 1 < y)) : Met l yX5_keep wsX5_keep ({ frames := 1, cells := 0, slots := 0, locals := 22 } : Room) (wl_ic D cy (fun _ => True) [moW cy a u] sz [.ref (a 0), .int y]) (va_Qi (fun (r : Int32) (bs : List va_W) => r = 0 ∧ bs = [moW cy a (su u 6 2 (nI 1))]) (wl_ib D [moW cy a u] sz) (va_A ([moW cy a u] : List va_W).flatten sz)) 0 0 (va_A ([moW cy a u] : List va_W).flatten sz) := by
  refine wl_ofI (cc := cX5_keep) (maxL := 2) (ret := (some .int)) (by decide) rfl (Nat.le_of_ble_eq_true rfl) ?_
  intro p e s m below meth c ls A hx hb hr hts hown hlocks hml hnm hsz hAe hP hK hD hX hA hS hl
  have hl : lv_has ls 2 [(0, .ref (a 0)), (1, .int y)] := hl
  refine lv_aload_n hx hb dX5_keep_0 rfl (lv_at hl 0 rfl) ?_
  refine lv_iload_n hx hb dX5_keep_1 rfl (lv_at hl 1 rfl) ?_
  refine lv_iconst (v := 0) hx hb dX5_keep_2 (by decide) ?_
  refine lv_iconst (v := 1) hx hb dX5_keep_3 (by decide) ?_
  refine wl_pS (As := [.int y, .int 0, .int 1]) (rest := [.ref (a 0)]) ⟨hx, hb, hml, hown, hts⟩ (m_X5_in l D cy y 0 1 ) (va_cwS 3 hts gX5_keep_X5_in rfl rfl rfl (by decide +kernel) ⟨Nat.le_of_ble_eq_true rfl, Nat.le_of_ble_eq_true rfl⟩) hK hP [] rfl rfl hl.1 rfl (Nat.le_of_ble_eq_true rfl) dX5_keep_4 ⟨Nat.le_of_ble_eq_true rfl, Nat.le_of_ble_eq_true rfl⟩ (fun r1 er1 => ?_)
  have er1 : r1 = if (¬ y < 0 ∧ ¬ 1 < y) then 1 else 0 := er1
  refine wl_b_eq (tgt := 14) hx hb (¬ y < 0 ∧ ¬ 1 < y) er1 dX5_keep_7 (by decide) (fun c2 => ?_) (fun c2 => absurd c2 hx2)
  refine lv_iconst (v := 1) hx hb dX5_keep_14 (by decide) ?_
  refine wl_iV (As := [.int 1]) (rest := []) (bsC := [moW cy a u]) (bsR := []) ⟨hx, hb, hml, hown, hts⟩ (m_X5_refused l D cy a u 1 s.heap.size (by omega)) (cwV 1 hts gX5_keep_X5_refused rfl rfl rfl (by decide +kernel) ⟨Nat.le_of_ble_eq_true rfl, Nat.le_of_ble_eq_true rfl⟩) wl_xT (fun _ _ _ => trivial) hK hP hD hS hA rfl rfl rfl rfl rfl hl.1 rfl (Nat.le_of_ble_eq_true rfl) dX5_keep_15 ⟨Nat.le_of_ble_eq_true rfl, Nat.le_of_ble_eq_true rfl⟩ (fun r3 bs4 H locs e5 _ _ hP hD hS => ?_)
  obtain ⟨er3, e5⟩ : r3 = (if (0 < 1) then 1 else 0) ∧ bs4 = [moW cy a (su u 6 2 (nI 1))] := e5
  subst e5
  have hP : va_P D vwCl ([moW cy a (su u 6 2 (nI 1))] : List va_W).flatten H := hP
  have hD : va_D A ([moW cy a (su u 6 2 (nI 1))] : List va_W).flatten := hD
  refine wl_b_eq (tgt := 23) hx hb (0 < 1) er3 dX5_keep_18 (by decide) (fun c6 => absurd (by decide) c6) (fun c6 => ?_)
  refine lv_iconst (v := 0) hx hb dX5_keep_21 (by decide) ?_
  exact wl_Ri (bs := [moW cy a (su u 6 2 (nI 1))]) (r := 0) hx hb hr hlocks hAe hP hD hS (by exact ⟨rfl, rfl⟩) dX5_keep_22
set_option maxHeartbeats 4000000 in
set_option maxRecDepth 100000 in
theorem r_X5_goBack (l : Launch) (D : va_G) (cy : Nat → ClassId) (a : Nat → Nat) (u : Nat → Nat → Int32) (i b : Nat) (sz : Nat) (hi : i < 2) (hf : u 3 i = 1) (hsv : u 6 0 = nI b) (hsv2 : b ≤ 6) : Met l yX5_goBack wsX5_goBack ({ frames := 2, cells := 0, slots := 0, locals := 45 } : Room) (wl_ic D cy (fun _ => True) [moW cy a u] sz [.ref (a 0), .int (nI i)]) (va_Qi (fun (r : Int32) (bs : List va_W) => r = zv (sf (q_sv (su u 6 2 (nI 0)) b) 0 (q_cp ((q_sv (su u 6 2 (nI 0)) b) 2) ((q_sv (su u 6 2 (nI 0)) b) 0) (170 * i) 0 170)) 7 0 ∧ bs = [moW cy a (sf (q_sv (su u 6 2 (nI 0)) b) 0 (q_cp ((q_sv (su u 6 2 (nI 0)) b) 2) ((q_sv (su u 6 2 (nI 0)) b) 0) (170 * i) 0 170))]) (wl_ib D [moW cy a u] sz) (va_A ([moW cy a u] : List va_W).flatten sz)) 0 0 (va_A ([moW cy a u] : List va_W).flatten sz) := by
  refine wl_ofI (cc := cX5_goBack) (maxL := 2) (ret := (some .int)) (by decide) rfl (Nat.le_of_ble_eq_true rfl) ?_
  intro p e s m below meth c ls A hx hb hr hts hown hlocks hml hnm hsz hAe hP hK hD hX hA hS hl
  have hl : lv_has ls 2 [(0, .ref (a 0)), (1, .int (nI i))] := hl
  have lkf16 := hts (.fieldLink RX5 16 "WireLampsModel" "slots" "[I") (by decide +kernel)
  have lkf19 := hts (.fieldLink RX5 19 "WireLampsModel" "isKept" "[Z") (by decide +kernel)
  have lkf7 := hts (.fieldLink RX5 7 "WireLampsModel" "z" "[I") (by decide +kernel)
  have in_X5 : ∀ w ∈ u_ws RX5 TX5 13, w ∈ wsX5_goBack := by decide +kernel
  refine lv_aload_n hx hb dX5_goBack_0 rfl (lv_at hl 0 rfl) ?_
  refine lv_iload_n hx hb dX5_goBack_1 rfl (lv_at hl 1 rfl) ?_
  refine lv_iconst (v := 0) hx hb dX5_goBack_2 (by decide) ?_
  refine lv_iconst (v := 1) hx hb dX5_goBack_3 (by decide) ?_
  refine wl_pS (As := [.int (nI i), .int 0, .int 1]) (rest := [.ref (a 0)]) ⟨hx, hb, hml, hown, hts⟩ (m_X5_in l D cy (nI i) 0 1 ) (va_cwS 3 hts gX5_goBack_X5_in rfl rfl rfl (by decide +kernel) ⟨Nat.le_of_ble_eq_true rfl, Nat.le_of_ble_eq_true rfl⟩) hK hP [] rfl rfl hl.1 rfl (Nat.le_of_ble_eq_true rfl) dX5_goBack_4 ⟨Nat.le_of_ble_eq_true rfl, Nat.le_of_ble_eq_true rfl⟩ (fun r1 er1 => ?_)
  have er1 : r1 = if (¬ (nI i) < 0 ∧ ¬ 1 < (nI i)) then 1 else 0 := er1
  refine wl_b_ne (tgt := 14) hx hb (¬ (nI i) < 0 ∧ ¬ 1 < (nI i)) er1 dX5_goBack_7 (by decide) (fun c2 => ?_) (fun c2 => absurd (wl_rng3 (a := 0) (b := 1) rfl rfl (by omega) (by omega) (by decide)) c2)
  refine lv_aload_n hx hb dX5_goBack_14 rfl (lv_at hl 0 rfl) ?_
  refine wl_getf (C := RX5) (T := TX5) (N := 13) (ci := 5) (v := .ref (a 4)) hx hb hts in_X5 hown hK hP 0 0 rfl rfl rfl 4 (by decide) lkf19 rfl rfl dX5_goBack_15 ?_
  refine lv_iload_n hx hb dX5_goBack_18 rfl (lv_at hl 1 rfl) ?_
  refine wl_zald hx hb hK hP 0 4 rfl rfl i (by omega) (Nat.le_of_ble_eq_true rfl) dX5_goBack_19 ?_
  refine lv_if_eq (tgt := 27) hx hb dX5_goBack_20 (by decide) (fun c3 => absurd c3 (by rw [hf]; decide)) (fun c3 => ?_)
  refine lv_iconst (v := 0) hx hb dX5_goBack_23 (by decide) ?_
  refine lv_goto (tgt := 28) hx hb dX5_goBack_24 (by decide) ?_
  refine wl_iV (As := [.int 0]) (rest := []) (bsC := [moW cy a u]) (bsR := []) ⟨hx, hb, hml, hown, hts⟩ (m_X5_refused l D cy a u 0 s.heap.size (by omega)) (cwV 1 hts gX5_goBack_X5_refused rfl rfl rfl (by decide +kernel) ⟨Nat.le_of_ble_eq_true rfl, Nat.le_of_ble_eq_true rfl⟩) wl_xT (fun _ _ _ => trivial) hK hP hD hS hA rfl rfl rfl rfl rfl hl.1 rfl (Nat.le_of_ble_eq_true rfl) dX5_goBack_28 ⟨Nat.le_of_ble_eq_true rfl, Nat.le_of_ble_eq_true rfl⟩ (fun r4 bs5 H locs e6 _ _ hP hD hS => ?_)
  obtain ⟨er4, e6⟩ : r4 = (if (0 < 0) then 1 else 0) ∧ bs5 = [moW cy a (su u 6 2 (nI 0))] := e6
  subst e6
  have hP : va_P D vwCl ([moW cy a (su u 6 2 (nI 0))] : List va_W).flatten H := hP
  have hD : va_D A ([moW cy a (su u 6 2 (nI 0))] : List va_W).flatten := hD
  refine wl_b_eq (tgt := 36) hx hb (0 < 0) er4 dX5_goBack_31 (by decide) (fun c7 => ?_) (fun c7 => absurd c7 (by decide))
  refine lv_aload_n hx hb dX5_goBack_36 rfl (lv_at hl 0 rfl) ?_
  refine wl_iVv (As := []) (rest := []) (bsC := [moW cy a (su u 6 2 (nI 0))]) (bsR := []) ⟨hx, hb, hml, hown, hts⟩ (m_X5_saveState l D cy a (su u 6 2 (nI 0)) b H.size hsv (by omega)) (cwV 0 hts gX5_goBack_X5_saveState rfl rfl rfl (by decide +kernel) ⟨Nat.le_of_ble_eq_true rfl, Nat.le_of_ble_eq_true rfl⟩) wl_xT (fun _ _ _ => trivial) hK hP hD hS hA rfl rfl rfl rfl rfl hl.1 rfl (Nat.le_of_ble_eq_true rfl) dX5_goBack_37 ⟨Nat.le_of_ble_eq_true rfl, Nat.le_of_ble_eq_true rfl⟩ (fun bs8 H locs e9 _ _ hP hD hS => ?_)
  have e9 : bs8 = [moW cy a (q_sv (su u 6 2 (nI 0)) b)] := e9
  subst e9
  have hP : va_P D vwCl ([moW cy a (q_sv (su u 6 2 (nI 0)) b)] : List va_W).flatten H := hP
  have hD : va_D A ([moW cy a (q_sv (su u 6 2 (nI 0)) b)] : List va_W).flatten := hD
  refine lv_aload_n hx hb dX5_goBack_40 rfl (lv_at hl 0 rfl) ?_
  refine wl_getf (C := RX5) (T := TX5) (N := 13) (ci := 5) (v := .ref (a 3)) hx hb hts in_X5 hown hK hP 0 0 rfl rfl rfl 3 (by decide) lkf16 rfl rfl dX5_goBack_41 ?_
  refine lv_sipush (v := 170) hx hb dX5_goBack_44 (by decide) ?_
  refine lv_iload_n hx hb dX5_goBack_47 rfl (lv_at hl 1 rfl) ?_
  refine lv_imul hx hb dX5_goBack_48 ?_
  refine wl_top (y := nI (170 * i)) (pk_mul 170 i) ?_
  refine lv_aload_n hx hb dX5_goBack_49 rfl (lv_at hl 0 rfl) ?_
  refine wl_getf (C := RX5) (T := TX5) (N := 13) (ci := 5) (v := .ref (a 1)) hx hb hts in_X5 hown hK hP 0 0 rfl rfl rfl 0 (by decide) lkf7 rfl rfl dX5_goBack_50 ?_
  refine lv_iconst (v := 0) hx hb dX5_goBack_53 (by decide) ?_
  refine wl_iSv (As := [.ref (a 3), .int (nI (170 * i)), .ref (a 1), .int 0]) (rest := []) (bsC := [moW cy a (q_sv (su u 6 2 (nI 0)) b)]) (bsR := []) ⟨hx, hb, hml, hown, hts⟩ (m_X5_copyState_Kz l D cy a (q_sv (su u 6 2 (nI 0)) b) (170 * i) H.size (by omega)) (va_cwS 4 hts gX5_goBack_X5_copyState rfl rfl rfl (by decide +kernel) ⟨Nat.le_of_ble_eq_true rfl, Nat.le_of_ble_eq_true rfl⟩) wl_xT (fun _ _ _ => trivial) hK hP hD hS hA rfl hl.1 rfl (Nat.le_of_ble_eq_true rfl) dX5_goBack_54 ⟨Nat.le_of_ble_eq_true rfl, Nat.le_of_ble_eq_true rfl⟩ (fun bs10 H locs e11 _ _ hP hD hS => ?_)
  have e11 : bs10 = [moW cy a (sf (q_sv (su u 6 2 (nI 0)) b) 0 (q_cp ((q_sv (su u 6 2 (nI 0)) b) 2) ((q_sv (su u 6 2 (nI 0)) b) 0) (170 * i) 0 170))] := e11
  subst e11
  have hP : va_P D vwCl ([moW cy a (sf (q_sv (su u 6 2 (nI 0)) b) 0 (q_cp ((q_sv (su u 6 2 (nI 0)) b) 2) ((q_sv (su u 6 2 (nI 0)) b) 0) (170 * i) 0 170))] : List va_W).flatten H := hP
  have hD : va_D A ([moW cy a (sf (q_sv (su u 6 2 (nI 0)) b) 0 (q_cp ((q_sv (su u 6 2 (nI 0)) b) 2) ((q_sv (su u 6 2 (nI 0)) b) 0) (170 * i) 0 170))] : List va_W).flatten := hD
  refine lv_aload_n hx hb dX5_goBack_57 rfl (lv_at hl 0 rfl) ?_
  refine wl_getf (C := RX5) (T := TX5) (N := 13) (ci := 5) (v := .ref (a 1)) hx hb hts in_X5 hown hK hP 0 0 rfl rfl rfl 0 (by decide) lkf7 rfl rfl dX5_goBack_58 ?_
  refine lv_bipush (v := 49) hx hb dX5_goBack_61 (by decide) ?_
  refine wl_iald hx hb hK hP 0 1 rfl rfl 49 (by omega) (Nat.le_of_ble_eq_true rfl) dX5_goBack_63 ?_
  refine wl_top (y := zv (sf (q_sv (su u 6 2 (nI 0)) b) 0 (q_cp ((q_sv (su u 6 2 (nI 0)) b) 2) ((q_sv (su u 6 2 (nI 0)) b) 0) (170 * i) 0 170)) 7 0) rfl ?_
  exact wl_Ri (bs := [moW cy a (sf (q_sv (su u 6 2 (nI 0)) b) 0 (q_cp ((q_sv (su u 6 2 (nI 0)) b) 2) ((q_sv (su u 6 2 (nI 0)) b) 0) (170 * i) 0 170))]) (r := (zv (sf (q_sv (su u 6 2 (nI 0)) b) 0 (q_cp ((q_sv (su u 6 2 (nI 0)) b) 2) ((q_sv (su u 6 2 (nI 0)) b) 0) (170 * i) 0 170)) 7 0)) hx hb hr hlocks hAe hP hD hS (by exact ⟨rfl, rfl⟩) dX5_goBack_64
set_option maxHeartbeats 4000000 in
set_option maxRecDepth 100000 in
theorem r_X5_goBack1 (l : Launch) (D : va_G) (cy : Nat → ClassId) (a : Nat → Nat) (u : Nat → Nat → Int32) (y : Int32) (sz : Nat) (hx2 : ¬ (¬ y < 0 ∧ ¬ 1 < y)) : Met l yX5_goBack wsX5_goBack ({ frames := 1, cells := 0, slots := 0, locals := 22 } : Room) (wl_ic D cy (fun _ => True) [moW cy a u] sz [.ref (a 0), .int y]) (va_Qi (fun (r : Int32) (bs : List va_W) => r = 0 ∧ bs = [moW cy a (su u 6 2 (nI 1))]) (wl_ib D [moW cy a u] sz) (va_A ([moW cy a u] : List va_W).flatten sz)) 0 0 (va_A ([moW cy a u] : List va_W).flatten sz) := by
  refine wl_ofI (cc := cX5_goBack) (maxL := 2) (ret := (some .int)) (by decide) rfl (Nat.le_of_ble_eq_true rfl) ?_
  intro p e s m below meth c ls A hx hb hr hts hown hlocks hml hnm hsz hAe hP hK hD hX hA hS hl
  have hl : lv_has ls 2 [(0, .ref (a 0)), (1, .int y)] := hl
  refine lv_aload_n hx hb dX5_goBack_0 rfl (lv_at hl 0 rfl) ?_
  refine lv_iload_n hx hb dX5_goBack_1 rfl (lv_at hl 1 rfl) ?_
  refine lv_iconst (v := 0) hx hb dX5_goBack_2 (by decide) ?_
  refine lv_iconst (v := 1) hx hb dX5_goBack_3 (by decide) ?_
  refine wl_pS (As := [.int y, .int 0, .int 1]) (rest := [.ref (a 0)]) ⟨hx, hb, hml, hown, hts⟩ (m_X5_in l D cy y 0 1 ) (va_cwS 3 hts gX5_goBack_X5_in rfl rfl rfl (by decide +kernel) ⟨Nat.le_of_ble_eq_true rfl, Nat.le_of_ble_eq_true rfl⟩) hK hP [] rfl rfl hl.1 rfl (Nat.le_of_ble_eq_true rfl) dX5_goBack_4 ⟨Nat.le_of_ble_eq_true rfl, Nat.le_of_ble_eq_true rfl⟩ (fun r1 er1 => ?_)
  have er1 : r1 = if (¬ y < 0 ∧ ¬ 1 < y) then 1 else 0 := er1
  refine wl_b_ne (tgt := 14) hx hb (¬ y < 0 ∧ ¬ 1 < y) er1 dX5_goBack_7 (by decide) (fun c2 => absurd c2 hx2) (fun c2 => ?_)
  refine lv_iconst (v := 1) hx hb dX5_goBack_10 (by decide) ?_
  refine lv_goto (tgt := 28) hx hb dX5_goBack_11 (by decide) ?_
  refine wl_iV (As := [.int 1]) (rest := []) (bsC := [moW cy a u]) (bsR := []) ⟨hx, hb, hml, hown, hts⟩ (m_X5_refused l D cy a u 1 s.heap.size (by omega)) (cwV 1 hts gX5_goBack_X5_refused rfl rfl rfl (by decide +kernel) ⟨Nat.le_of_ble_eq_true rfl, Nat.le_of_ble_eq_true rfl⟩) wl_xT (fun _ _ _ => trivial) hK hP hD hS hA rfl rfl rfl rfl rfl hl.1 rfl (Nat.le_of_ble_eq_true rfl) dX5_goBack_28 ⟨Nat.le_of_ble_eq_true rfl, Nat.le_of_ble_eq_true rfl⟩ (fun r3 bs4 H locs e5 _ _ hP hD hS => ?_)
  obtain ⟨er3, e5⟩ : r3 = (if (0 < 1) then 1 else 0) ∧ bs4 = [moW cy a (su u 6 2 (nI 1))] := e5
  subst e5
  have hP : va_P D vwCl ([moW cy a (su u 6 2 (nI 1))] : List va_W).flatten H := hP
  have hD : va_D A ([moW cy a (su u 6 2 (nI 1))] : List va_W).flatten := hD
  refine wl_b_eq (tgt := 36) hx hb (0 < 1) er3 dX5_goBack_31 (by decide) (fun c6 => absurd (by decide) c6) (fun c6 => ?_)
  refine lv_iconst (v := 0) hx hb dX5_goBack_34 (by decide) ?_
  exact wl_Ri (bs := [moW cy a (su u 6 2 (nI 1))]) (r := 0) hx hb hr hlocks hAe hP hD hS (by exact ⟨rfl, rfl⟩) dX5_goBack_35
set_option maxHeartbeats 4000000 in
set_option maxRecDepth 100000 in
theorem r_X5_goBack2 (l : Launch) (D : va_G) (cy : Nat → ClassId) (a : Nat → Nat) (u : Nat → Nat → Int32) (i : Nat) (sz : Nat) (hi : i < 2) (hf : u 3 i = 0) : Met l yX5_goBack wsX5_goBack ({ frames := 1, cells := 0, slots := 0, locals := 22 } : Room) (wl_ic D cy (fun _ => True) [moW cy a u] sz [.ref (a 0), .int (nI i)]) (va_Qi (fun (r : Int32) (bs : List va_W) => r = 0 ∧ bs = [moW cy a (su u 6 2 (nI 2))]) (wl_ib D [moW cy a u] sz) (va_A ([moW cy a u] : List va_W).flatten sz)) 0 0 (va_A ([moW cy a u] : List va_W).flatten sz) := by
  refine wl_ofI (cc := cX5_goBack) (maxL := 2) (ret := (some .int)) (by decide) rfl (Nat.le_of_ble_eq_true rfl) ?_
  intro p e s m below meth c ls A hx hb hr hts hown hlocks hml hnm hsz hAe hP hK hD hX hA hS hl
  have hl : lv_has ls 2 [(0, .ref (a 0)), (1, .int (nI i))] := hl
  have lkf19 := hts (.fieldLink RX5 19 "WireLampsModel" "isKept" "[Z") (by decide +kernel)
  have in_X5 : ∀ w ∈ u_ws RX5 TX5 13, w ∈ wsX5_goBack := by decide +kernel
  refine lv_aload_n hx hb dX5_goBack_0 rfl (lv_at hl 0 rfl) ?_
  refine lv_iload_n hx hb dX5_goBack_1 rfl (lv_at hl 1 rfl) ?_
  refine lv_iconst (v := 0) hx hb dX5_goBack_2 (by decide) ?_
  refine lv_iconst (v := 1) hx hb dX5_goBack_3 (by decide) ?_
  refine wl_pS (As := [.int (nI i), .int 0, .int 1]) (rest := [.ref (a 0)]) ⟨hx, hb, hml, hown, hts⟩ (m_X5_in l D cy (nI i) 0 1 ) (va_cwS 3 hts gX5_goBack_X5_in rfl rfl rfl (by decide +kernel) ⟨Nat.le_of_ble_eq_true rfl, Nat.le_of_ble_eq_true rfl⟩) hK hP [] rfl rfl hl.1 rfl (Nat.le_of_ble_eq_true rfl) dX5_goBack_4 ⟨Nat.le_of_ble_eq_true rfl, Nat.le_of_ble_eq_true rfl⟩ (fun r1 er1 => ?_)
  have er1 : r1 = if (¬ (nI i) < 0 ∧ ¬ 1 < (nI i)) then 1 else 0 := er1
  refine wl_b_ne (tgt := 14) hx hb (¬ (nI i) < 0 ∧ ¬ 1 < (nI i)) er1 dX5_goBack_7 (by decide) (fun c2 => ?_) (fun c2 => absurd (wl_rng3 (a := 0) (b := 1) rfl rfl (by omega) (by omega) (by decide)) c2)
  refine lv_aload_n hx hb dX5_goBack_14 rfl (lv_at hl 0 rfl) ?_
  refine wl_getf (C := RX5) (T := TX5) (N := 13) (ci := 5) (v := .ref (a 4)) hx hb hts in_X5 hown hK hP 0 0 rfl rfl rfl 4 (by decide) lkf19 rfl rfl dX5_goBack_15 ?_
  refine lv_iload_n hx hb dX5_goBack_18 rfl (lv_at hl 1 rfl) ?_
  refine wl_zald hx hb hK hP 0 4 rfl rfl i (by omega) (Nat.le_of_ble_eq_true rfl) dX5_goBack_19 ?_
  refine lv_if_eq (tgt := 27) hx hb dX5_goBack_20 (by decide) (fun c3 => ?_) (fun c3 => absurd hf c3)
  refine lv_iconst (v := 2) hx hb dX5_goBack_27 (by decide) ?_
  refine wl_iV (As := [.int 2]) (rest := []) (bsC := [moW cy a u]) (bsR := []) ⟨hx, hb, hml, hown, hts⟩ (m_X5_refused l D cy a u 2 s.heap.size (by omega)) (cwV 1 hts gX5_goBack_X5_refused rfl rfl rfl (by decide +kernel) ⟨Nat.le_of_ble_eq_true rfl, Nat.le_of_ble_eq_true rfl⟩) wl_xT (fun _ _ _ => trivial) hK hP hD hS hA rfl rfl rfl rfl rfl hl.1 rfl (Nat.le_of_ble_eq_true rfl) dX5_goBack_28 ⟨Nat.le_of_ble_eq_true rfl, Nat.le_of_ble_eq_true rfl⟩ (fun r4 bs5 H locs e6 _ _ hP hD hS => ?_)
  obtain ⟨er4, e6⟩ : r4 = (if (0 < 2) then 1 else 0) ∧ bs5 = [moW cy a (su u 6 2 (nI 2))] := e6
  subst e6
  have hP : va_P D vwCl ([moW cy a (su u 6 2 (nI 2))] : List va_W).flatten H := hP
  have hD : va_D A ([moW cy a (su u 6 2 (nI 2))] : List va_W).flatten := hD
  refine wl_b_eq (tgt := 36) hx hb (0 < 2) er4 dX5_goBack_31 (by decide) (fun c7 => absurd (by decide) c7) (fun c7 => ?_)
  refine lv_iconst (v := 0) hx hb dX5_goBack_34 (by decide) ?_
  exact wl_Ri (bs := [moW cy a (su u 6 2 (nI 2))]) (r := 0) hx hb hr hlocks hAe hP hD hS (by exact ⟨rfl, rfl⟩) dX5_goBack_35
set_option maxHeartbeats 4000000 in
set_option maxRecDepth 100000 in
theorem r_X5_undo (l : Launch) (D : va_G) (cy : Nat → ClassId) (a : Nat → Nat) (u : Nat → Nat → Int32) (b : Nat) (sz : Nat) (hb0 : 0 < b) (hsv : u 6 0 = nI b) (hsv2 : b ≤ 6) : Met l yX5_undo wsX5_undo ({ frames := 1, cells := 0, slots := 0, locals := 24 } : Room) (wl_ic D cy (fun _ => True) [moW cy a u] sz [.ref (a 0)]) (va_Qi (fun (r : Int32) (bs : List va_W) => r = nI (b - 1) ∧ bs = [moW cy a (sf (su (su u 6 2 (nI 0)) 6 0 (nI (b - 1))) 0 (q_cp ((su (su u 6 2 (nI 0)) 6 0 (nI (b - 1))) 1) ((su (su u 6 2 (nI 0)) 6 0 (nI (b - 1))) 0) (170 * (b - 1)) 0 170))]) (wl_ib D [moW cy a u] sz) (va_A ([moW cy a u] : List va_W).flatten sz)) 0 0 (va_A ([moW cy a u] : List va_W).flatten sz) := by
  refine wl_ofI (cc := cX5_undo) (maxL := 1) (ret := (some .int)) (by decide) rfl (Nat.le_of_ble_eq_true rfl) ?_
  intro p e s m below meth c ls A hx hb hr hts hown hlocks hml hnm hsz hAe hP hK hD hX hA hS hl
  have hl : lv_has ls 1 [(0, .ref (a 0))] := hl
  have lkf13 := hts (.fieldLink RX5 13 "WireLampsModel" "saved" "[I") (by decide +kernel)
  have lkf40 := hts (.fieldLink RX5 40 "WireLampsModel" "savedMany" "I") (by decide +kernel)
  have lkf7 := hts (.fieldLink RX5 7 "WireLampsModel" "z" "[I") (by decide +kernel)
  have in_X5 : ∀ w ∈ u_ws RX5 TX5 13, w ∈ wsX5_undo := by decide +kernel
  refine lv_aload_n hx hb dX5_undo_0 rfl (lv_at hl 0 rfl) ?_
  refine lv_aload_n hx hb dX5_undo_1 rfl (lv_at hl 0 rfl) ?_
  refine wl_getf (C := RX5) (T := TX5) (N := 13) (ci := 5) (v := .int (u 6 0)) hx hb hts in_X5 hown hK hP 0 0 rfl rfl rfl 2 (by decide) lkf40 rfl rfl dX5_undo_2 ?_
  refine wl_top (y := nI b) hsv ?_
  refine wl_if_ne (tgt := 12) hx hb b dX5_undo_5 (by decide) (by omega) (fun c1 => ?_) (fun c1 => absurd c1 (by omega))
  refine lv_iconst (v := 0) hx hb dX5_undo_12 (by decide) ?_
  refine wl_iV (As := [.int 0]) (rest := []) (bsC := [moW cy a u]) (bsR := []) ⟨hx, hb, hml, hown, hts⟩ (m_X5_refused l D cy a u 0 s.heap.size (by omega)) (cwV 1 hts gX5_undo_X5_refused rfl rfl rfl (by decide +kernel) ⟨Nat.le_of_ble_eq_true rfl, Nat.le_of_ble_eq_true rfl⟩) wl_xT (fun _ _ _ => trivial) hK hP hD hS hA rfl rfl rfl rfl rfl hl.1 rfl (Nat.le_of_ble_eq_true rfl) dX5_undo_13 ⟨Nat.le_of_ble_eq_true rfl, Nat.le_of_ble_eq_true rfl⟩ (fun r2 bs3 H locs e4 _ _ hP hD hS => ?_)
  obtain ⟨er2, e4⟩ : r2 = (if (0 < 0) then 1 else 0) ∧ bs3 = [moW cy a (su u 6 2 (nI 0))] := e4
  subst e4
  have hP : va_P D vwCl ([moW cy a (su u 6 2 (nI 0))] : List va_W).flatten H := hP
  have hD : va_D A ([moW cy a (su u 6 2 (nI 0))] : List va_W).flatten := hD
  refine wl_b_eq (tgt := 21) hx hb (0 < 0) er2 dX5_undo_16 (by decide) (fun c5 => ?_) (fun c5 => absurd c5 (by decide))
  refine lv_aload_n hx hb dX5_undo_21 rfl (lv_at hl 0 rfl) ?_
  refine lv_dup hx hb dX5_undo_22 rfl ?_
  refine wl_getf (C := RX5) (T := TX5) (N := 13) (ci := 5) (v := .int ((su u 6 2 (nI 0)) 6 0)) hx hb hts in_X5 hown hK hP 0 0 rfl rfl rfl 2 (by decide) lkf40 rfl rfl dX5_undo_23 ?_
  refine wl_top (y := nI b) hsv ?_
  refine lv_iconst (v := 1) hx hb dX5_undo_26 (by decide) ?_
  refine lv_isub hx hb dX5_undo_27 ?_
  refine wl_top (y := nI (b - 1)) (pk_sub (a := b) (b := 1) (by omega)) ?_
  refine wl_putf (C := RX5) (T := TX5) (N := 13) (ci := 5) (v := .int (nI (b - 1))) hx hb hts in_X5 tyX5 tyX5_ok nmX5 hown hK hP hD hS 0 0 rfl rfl rfl 2 (by decide) lkf40 rfl rfl rfl rfl (Nat.le_of_ble_eq_true rfl) dX5_undo_28 (fun H locs hP hD hS => ?_)
  have hP : va_P D vwCl ([moW cy a (su (su u 6 2 (nI 0)) 6 0 (nI (b - 1)))] : List va_W).flatten H := hP
  have hD : va_D A ([moW cy a (su (su u 6 2 (nI 0)) 6 0 (nI (b - 1)))] : List va_W).flatten := hD
  refine lv_aload_n hx hb dX5_undo_31 rfl (lv_at hl 0 rfl) ?_
  refine wl_getf (C := RX5) (T := TX5) (N := 13) (ci := 5) (v := .ref (a 2)) hx hb hts in_X5 hown hK hP 0 0 rfl rfl rfl 1 (by decide) lkf13 rfl rfl dX5_undo_32 ?_
  refine lv_sipush (v := 170) hx hb dX5_undo_35 (by decide) ?_
  refine lv_aload_n hx hb dX5_undo_38 rfl (lv_at hl 0 rfl) ?_
  refine wl_getf (C := RX5) (T := TX5) (N := 13) (ci := 5) (v := .int (nI (b - 1))) hx hb hts in_X5 hown hK hP 0 0 rfl rfl rfl 2 (by decide) lkf40 rfl rfl dX5_undo_39 ?_
  refine lv_imul hx hb dX5_undo_42 ?_
  refine wl_top (y := nI (170 * (b - 1))) (pk_mul 170 (b - 1)) ?_
  refine lv_aload_n hx hb dX5_undo_43 rfl (lv_at hl 0 rfl) ?_
  refine wl_getf (C := RX5) (T := TX5) (N := 13) (ci := 5) (v := .ref (a 1)) hx hb hts in_X5 hown hK hP 0 0 rfl rfl rfl 0 (by decide) lkf7 rfl rfl dX5_undo_44 ?_
  refine lv_iconst (v := 0) hx hb dX5_undo_47 (by decide) ?_
  refine wl_iSv (As := [.ref (a 2), .int (nI (170 * (b - 1))), .ref (a 1), .int 0]) (rest := []) (bsC := [moW cy a (su (su u 6 2 (nI 0)) 6 0 (nI (b - 1)))]) (bsR := []) ⟨hx, hb, hml, hown, hts⟩ (m_X5_copyState_Sz l D cy a (su (su u 6 2 (nI 0)) 6 0 (nI (b - 1))) (170 * (b - 1)) H.size (by omega)) (va_cwS 4 hts gX5_undo_X5_copyState rfl rfl rfl (by decide +kernel) ⟨Nat.le_of_ble_eq_true rfl, Nat.le_of_ble_eq_true rfl⟩) wl_xT (fun _ _ _ => trivial) hK hP hD hS hA rfl hl.1 rfl (Nat.le_of_ble_eq_true rfl) dX5_undo_48 ⟨Nat.le_of_ble_eq_true rfl, Nat.le_of_ble_eq_true rfl⟩ (fun bs6 H locs e7 _ _ hP hD hS => ?_)
  have e7 : bs6 = [moW cy a (sf (su (su u 6 2 (nI 0)) 6 0 (nI (b - 1))) 0 (q_cp ((su (su u 6 2 (nI 0)) 6 0 (nI (b - 1))) 1) ((su (su u 6 2 (nI 0)) 6 0 (nI (b - 1))) 0) (170 * (b - 1)) 0 170))] := e7
  subst e7
  have hP : va_P D vwCl ([moW cy a (sf (su (su u 6 2 (nI 0)) 6 0 (nI (b - 1))) 0 (q_cp ((su (su u 6 2 (nI 0)) 6 0 (nI (b - 1))) 1) ((su (su u 6 2 (nI 0)) 6 0 (nI (b - 1))) 0) (170 * (b - 1)) 0 170))] : List va_W).flatten H := hP
  have hD : va_D A ([moW cy a (sf (su (su u 6 2 (nI 0)) 6 0 (nI (b - 1))) 0 (q_cp ((su (su u 6 2 (nI 0)) 6 0 (nI (b - 1))) 1) ((su (su u 6 2 (nI 0)) 6 0 (nI (b - 1))) 0) (170 * (b - 1)) 0 170))] : List va_W).flatten := hD
  refine lv_aload_n hx hb dX5_undo_51 rfl (lv_at hl 0 rfl) ?_
  refine wl_getf (C := RX5) (T := TX5) (N := 13) (ci := 5) (v := .int ((sf (su (su u 6 2 (nI 0)) 6 0 (nI (b - 1))) 0 (q_cp ((su (su u 6 2 (nI 0)) 6 0 (nI (b - 1))) 1) ((su (su u 6 2 (nI 0)) 6 0 (nI (b - 1))) 0) (170 * (b - 1)) 0 170)) 6 0)) hx hb hts in_X5 hown hK hP 0 0 rfl rfl rfl 2 (by decide) lkf40 rfl rfl dX5_undo_52 ?_
  refine wl_top (y := nI (b - 1)) rfl ?_
  exact wl_Ri (bs := [moW cy a (sf (su (su u 6 2 (nI 0)) 6 0 (nI (b - 1))) 0 (q_cp ((su (su u 6 2 (nI 0)) 6 0 (nI (b - 1))) 1) ((su (su u 6 2 (nI 0)) 6 0 (nI (b - 1))) 0) (170 * (b - 1)) 0 170))]) (r := (nI (b - 1))) hx hb hr hlocks hAe hP hD hS (by exact ⟨rfl, rfl⟩) dX5_undo_55
set_option maxHeartbeats 4000000 in
set_option maxRecDepth 100000 in
theorem r_X5_undo1 (l : Launch) (D : va_G) (cy : Nat → ClassId) (a : Nat → Nat) (u : Nat → Nat → Int32) (sz : Nat) (hsv : u 6 0 = nI 0) : Met l yX5_undo wsX5_undo ({ frames := 1, cells := 0, slots := 0, locals := 21 } : Room) (wl_ic D cy (fun _ => True) [moW cy a u] sz [.ref (a 0)]) (va_Qi (fun (r : Int32) (bs : List va_W) => r = 0 ∧ bs = [moW cy a (su u 6 2 (nI 1))]) (wl_ib D [moW cy a u] sz) (va_A ([moW cy a u] : List va_W).flatten sz)) 0 0 (va_A ([moW cy a u] : List va_W).flatten sz) := by
  refine wl_ofI (cc := cX5_undo) (maxL := 1) (ret := (some .int)) (by decide) rfl (Nat.le_of_ble_eq_true rfl) ?_
  intro p e s m below meth c ls A hx hb hr hts hown hlocks hml hnm hsz hAe hP hK hD hX hA hS hl
  have hl : lv_has ls 1 [(0, .ref (a 0))] := hl
  have lkf40 := hts (.fieldLink RX5 40 "WireLampsModel" "savedMany" "I") (by decide +kernel)
  have in_X5 : ∀ w ∈ u_ws RX5 TX5 13, w ∈ wsX5_undo := by decide +kernel
  refine lv_aload_n hx hb dX5_undo_0 rfl (lv_at hl 0 rfl) ?_
  refine lv_aload_n hx hb dX5_undo_1 rfl (lv_at hl 0 rfl) ?_
  refine wl_getf (C := RX5) (T := TX5) (N := 13) (ci := 5) (v := .int (u 6 0)) hx hb hts in_X5 hown hK hP 0 0 rfl rfl rfl 2 (by decide) lkf40 rfl rfl dX5_undo_2 ?_
  refine wl_top (y := nI 0) hsv ?_
  refine wl_if_ne (tgt := 12) hx hb 0 dX5_undo_5 (by decide) (by omega) (fun c1 => absurd c1 (by omega)) (fun c1 => ?_)
  refine lv_iconst (v := 1) hx hb dX5_undo_8 (by decide) ?_
  refine lv_goto (tgt := 13) hx hb dX5_undo_9 (by decide) ?_
  refine wl_iV (As := [.int 1]) (rest := []) (bsC := [moW cy a u]) (bsR := []) ⟨hx, hb, hml, hown, hts⟩ (m_X5_refused l D cy a u 1 s.heap.size (by omega)) (cwV 1 hts gX5_undo_X5_refused rfl rfl rfl (by decide +kernel) ⟨Nat.le_of_ble_eq_true rfl, Nat.le_of_ble_eq_true rfl⟩) wl_xT (fun _ _ _ => trivial) hK hP hD hS hA rfl rfl rfl rfl rfl hl.1 rfl (Nat.le_of_ble_eq_true rfl) dX5_undo_13 ⟨Nat.le_of_ble_eq_true rfl, Nat.le_of_ble_eq_true rfl⟩ (fun r2 bs3 H locs e4 _ _ hP hD hS => ?_)
  obtain ⟨er2, e4⟩ : r2 = (if (0 < 1) then 1 else 0) ∧ bs3 = [moW cy a (su u 6 2 (nI 1))] := e4
  subst e4
  have hP : va_P D vwCl ([moW cy a (su u 6 2 (nI 1))] : List va_W).flatten H := hP
  have hD : va_D A ([moW cy a (su u 6 2 (nI 1))] : List va_W).flatten := hD
  refine wl_b_eq (tgt := 21) hx hb (0 < 1) er2 dX5_undo_16 (by decide) (fun c5 => absurd (by decide) c5) (fun c5 => ?_)
  refine lv_iconst (v := 0) hx hb dX5_undo_19 (by decide) ?_
  exact wl_Ri (bs := [moW cy a (su u 6 2 (nI 1))]) (r := 0) hx hb hr hlocks hAe hP hD hS (by exact ⟨rfl, rfl⟩) dX5_undo_20
set_option maxHeartbeats 4000000 in
set_option maxRecDepth 100000 in
theorem r_X5_lampOf (l : Launch) (D : va_G) (cy : Nat → ClassId) (a : Nat → Nat) (u : Nat → Nat → Int32) (i k : Nat) (sz : Nat) (hi : i < 8) (hk : k < 8) (hs : ¬ zv u 5 2 < 0) : Met l yX5_lampOf wsX5_lampOf ({ frames := 4, cells := 0, slots := 0, locals := 90 } : Room) (wl_ic D cy (fun _ => True) [moW cy a u] sz [.ref (a 0), .int (nI i), .int (nI k)]) (va_Qi (fun (r : Int32) (bs : List va_W) => r = q_lo (zv u) i k ∧ bs = [moW cy a (su u 6 2 (nI 0))]) (wl_ib D [moW cy a u] sz) (va_A ([moW cy a u] : List va_W).flatten sz)) 0 0 (va_A ([moW cy a u] : List va_W).flatten sz) := by
  refine wl_ofI (cc := cX5_lampOf) (maxL := 3) (ret := (some .int)) (by decide) rfl (Nat.le_of_ble_eq_true rfl) ?_
  intro p e s m below meth c ls A hx hb hr hts hown hlocks hml hnm hsz hAe hP hK hD hX hA hS hl
  have hl : lv_has ls 3 [(0, .ref (a 0)), (1, .int (nI i)), (2, .int (nI k))] := hl
  refine lv_aload_n hx hb dX5_lampOf_0 rfl (lv_at hl 0 rfl) ?_
  refine lv_iload_n hx hb dX5_lampOf_1 rfl (lv_at hl 1 rfl) ?_
  refine wl_pS (As := [.int (nI i)]) (rest := [.ref (a 0)]) ⟨hx, hb, hml, hown, hts⟩ (m_X5_isLamp l D cy (nI i) ) (va_cwS 1 hts gX5_lampOf_X5_isLamp rfl rfl rfl (by decide +kernel) ⟨Nat.le_of_ble_eq_true rfl, Nat.le_of_ble_eq_true rfl⟩) hK hP [] rfl rfl hl.1 rfl (Nat.le_of_ble_eq_true rfl) dX5_lampOf_2 ⟨Nat.le_of_ble_eq_true rfl, Nat.le_of_ble_eq_true rfl⟩ (fun r1 er1 => ?_)
  have er1 : r1 = if (¬ (nI i) < 0 ∧ ¬ 7 < (nI i)) then 1 else 0 := er1
  refine wl_b_ne (tgt := 12) hx hb (¬ (nI i) < 0 ∧ ¬ 7 < (nI i)) er1 dX5_lampOf_5 (by decide) (fun c2 => ?_) (fun c2 => absurd (wl_rng3 (a := 0) (b := 7) rfl rfl (by omega) (by omega) (by decide)) c2)
  refine lv_iload_n hx hb dX5_lampOf_12 rfl (lv_at hl 2 rfl) ?_
  refine lv_iconst (v := 0) hx hb dX5_lampOf_13 (by decide) ?_
  refine lv_bipush (v := 7) hx hb dX5_lampOf_14 (by decide) ?_
  refine wl_pS (As := [.int (nI k), .int 0, .int 7]) (rest := [.ref (a 0)]) ⟨hx, hb, hml, hown, hts⟩ (m_X5_in l D cy (nI k) 0 7 ) (va_cwS 3 hts gX5_lampOf_X5_in rfl rfl rfl (by decide +kernel) ⟨Nat.le_of_ble_eq_true rfl, Nat.le_of_ble_eq_true rfl⟩) hK hP [] rfl rfl hl.1 rfl (Nat.le_of_ble_eq_true rfl) dX5_lampOf_16 ⟨Nat.le_of_ble_eq_true rfl, Nat.le_of_ble_eq_true rfl⟩ (fun r3 er3 => ?_)
  have er3 : r3 = if (¬ (nI k) < 0 ∧ ¬ 7 < (nI k)) then 1 else 0 := er3
  refine wl_b_eq (tgt := 26) hx hb (¬ (nI k) < 0 ∧ ¬ 7 < (nI k)) er3 dX5_lampOf_19 (by decide) (fun c4 => absurd (wl_rng3 (a := 0) (b := 7) rfl rfl (by omega) (by omega) (by decide)) c4) (fun c4 => ?_)
  refine lv_iconst (v := 0) hx hb dX5_lampOf_22 (by decide) ?_
  refine lv_goto (tgt := 27) hx hb dX5_lampOf_23 (by decide) ?_
  refine wl_iV (As := [.int 0]) (rest := []) (bsC := [moW cy a u]) (bsR := []) ⟨hx, hb, hml, hown, hts⟩ (m_X5_refused l D cy a u 0 s.heap.size (by omega)) (cwV 1 hts gX5_lampOf_X5_refused rfl rfl rfl (by decide +kernel) ⟨Nat.le_of_ble_eq_true rfl, Nat.le_of_ble_eq_true rfl⟩) wl_xT (fun _ _ _ => trivial) hK hP hD hS hA rfl rfl rfl rfl rfl hl.1 rfl (Nat.le_of_ble_eq_true rfl) dX5_lampOf_27 ⟨Nat.le_of_ble_eq_true rfl, Nat.le_of_ble_eq_true rfl⟩ (fun r5 bs6 H locs e7 _ _ hP hD hS => ?_)
  obtain ⟨er5, e7⟩ : r5 = (if (0 < 0) then 1 else 0) ∧ bs6 = [moW cy a (su u 6 2 (nI 0))] := e7
  subst e7
  have hP : va_P D vwCl ([moW cy a (su u 6 2 (nI 0))] : List va_W).flatten H := hP
  have hD : va_D A ([moW cy a (su u 6 2 (nI 0))] : List va_W).flatten := hD
  refine wl_b_eq (tgt := 37) hx hb (0 < 0) er5 dX5_lampOf_30 (by decide) (fun c8 => ?_) (fun c8 => absurd c8 (by decide))
  refine lv_aload_n hx hb dX5_lampOf_37 rfl (lv_at hl 0 rfl) ?_
  refine lv_iload_n hx hb dX5_lampOf_38 rfl (lv_at hl 1 rfl) ?_
  refine lv_iload_n hx hb dX5_lampOf_39 rfl (lv_at hl 2 rfl) ?_
  refine wl_pV (As := [.int (nI i), .int (nI k)]) (rest := []) ⟨hx, hb, hml, hown, hts⟩ (m_X5_aboutLamp l D cy a (su u 6 2 (nI 0)) i k (by omega) (by omega) hs) (cwV 2 hts gX5_lampOf_X5_aboutLamp rfl rfl rfl (by decide +kernel) ⟨Nat.le_of_ble_eq_true rfl, Nat.le_of_ble_eq_true rfl⟩) hK hP [0] rfl rfl rfl rfl rfl rfl hl.1 rfl (Nat.le_of_ble_eq_true rfl) dX5_lampOf_40 ⟨Nat.le_of_ble_eq_true rfl, Nat.le_of_ble_eq_true rfl⟩ (fun r9 er9 => ?_)
  have er9 : r9 = q_lo (zv (su u 6 2 (nI 0))) i k := er9
  subst er9
  exact wl_Ri (bs := [moW cy a (su u 6 2 (nI 0))]) (r := (q_lo (zv (su u 6 2 (nI 0))) i k)) hx hb hr hlocks hAe hP hD hS (by exact ⟨rfl, rfl⟩) dX5_lampOf_43
set_option maxHeartbeats 4000000 in
set_option maxRecDepth 100000 in
theorem r_X5_lampOf1 (l : Launch) (D : va_G) (cy : Nat → ClassId) (a : Nat → Nat) (u : Nat → Nat → Int32) (y y2 : Int32) (sz : Nat) (hx2 : ¬ (¬ y < 0 ∧ ¬ 7 < y)) : Met l yX5_lampOf wsX5_lampOf ({ frames := 2, cells := 0, slots := 0, locals := 42 } : Room) (wl_ic D cy (fun _ => True) [moW cy a u] sz [.ref (a 0), .int y, .int y2]) (va_Qi (fun (r : Int32) (bs : List va_W) => r = 0 ∧ bs = [moW cy a (su u 6 2 (nI 1))]) (wl_ib D [moW cy a u] sz) (va_A ([moW cy a u] : List va_W).flatten sz)) 0 0 (va_A ([moW cy a u] : List va_W).flatten sz) := by
  refine wl_ofI (cc := cX5_lampOf) (maxL := 3) (ret := (some .int)) (by decide) rfl (Nat.le_of_ble_eq_true rfl) ?_
  intro p e s m below meth c ls A hx hb hr hts hown hlocks hml hnm hsz hAe hP hK hD hX hA hS hl
  have hl : lv_has ls 3 [(0, .ref (a 0)), (1, .int y), (2, .int y2)] := hl
  refine lv_aload_n hx hb dX5_lampOf_0 rfl (lv_at hl 0 rfl) ?_
  refine lv_iload_n hx hb dX5_lampOf_1 rfl (lv_at hl 1 rfl) ?_
  refine wl_pS (As := [.int y]) (rest := [.ref (a 0)]) ⟨hx, hb, hml, hown, hts⟩ (m_X5_isLamp l D cy y ) (va_cwS 1 hts gX5_lampOf_X5_isLamp rfl rfl rfl (by decide +kernel) ⟨Nat.le_of_ble_eq_true rfl, Nat.le_of_ble_eq_true rfl⟩) hK hP [] rfl rfl hl.1 rfl (Nat.le_of_ble_eq_true rfl) dX5_lampOf_2 ⟨Nat.le_of_ble_eq_true rfl, Nat.le_of_ble_eq_true rfl⟩ (fun r1 er1 => ?_)
  have er1 : r1 = if (¬ y < 0 ∧ ¬ 7 < y) then 1 else 0 := er1
  refine wl_b_ne (tgt := 12) hx hb (¬ y < 0 ∧ ¬ 7 < y) er1 dX5_lampOf_5 (by decide) (fun c2 => absurd c2 hx2) (fun c2 => ?_)
  refine lv_iconst (v := 1) hx hb dX5_lampOf_8 (by decide) ?_
  refine lv_goto (tgt := 27) hx hb dX5_lampOf_9 (by decide) ?_
  refine wl_iV (As := [.int 1]) (rest := []) (bsC := [moW cy a u]) (bsR := []) ⟨hx, hb, hml, hown, hts⟩ (m_X5_refused l D cy a u 1 s.heap.size (by omega)) (cwV 1 hts gX5_lampOf_X5_refused rfl rfl rfl (by decide +kernel) ⟨Nat.le_of_ble_eq_true rfl, Nat.le_of_ble_eq_true rfl⟩) wl_xT (fun _ _ _ => trivial) hK hP hD hS hA rfl rfl rfl rfl rfl hl.1 rfl (Nat.le_of_ble_eq_true rfl) dX5_lampOf_27 ⟨Nat.le_of_ble_eq_true rfl, Nat.le_of_ble_eq_true rfl⟩ (fun r3 bs4 H locs e5 _ _ hP hD hS => ?_)
  obtain ⟨er3, e5⟩ : r3 = (if (0 < 1) then 1 else 0) ∧ bs4 = [moW cy a (su u 6 2 (nI 1))] := e5
  subst e5
  have hP : va_P D vwCl ([moW cy a (su u 6 2 (nI 1))] : List va_W).flatten H := hP
  have hD : va_D A ([moW cy a (su u 6 2 (nI 1))] : List va_W).flatten := hD
  refine wl_b_eq (tgt := 37) hx hb (0 < 1) er3 dX5_lampOf_30 (by decide) (fun c6 => absurd (by decide) c6) (fun c6 => ?_)
  refine lv_iconst (v := 0) hx hb dX5_lampOf_33 (by decide) ?_
  refine lv_goto (tgt := 43) hx hb dX5_lampOf_34 (by decide) ?_
  exact wl_Ri (bs := [moW cy a (su u 6 2 (nI 1))]) (r := 0) hx hb hr hlocks hAe hP hD hS (by exact ⟨rfl, rfl⟩) dX5_lampOf_43
set_option maxHeartbeats 4000000 in
set_option maxRecDepth 100000 in
theorem r_X5_lampOf2 (l : Launch) (D : va_G) (cy : Nat → ClassId) (a : Nat → Nat) (u : Nat → Nat → Int32) (i : Nat) (y : Int32) (sz : Nat) (hi : i < 8) (hx2 : ¬ (¬ y < 0 ∧ ¬ 7 < y)) : Met l yX5_lampOf wsX5_lampOf ({ frames := 2, cells := 0, slots := 0, locals := 42 } : Room) (wl_ic D cy (fun _ => True) [moW cy a u] sz [.ref (a 0), .int (nI i), .int y]) (va_Qi (fun (r : Int32) (bs : List va_W) => r = 0 ∧ bs = [moW cy a (su u 6 2 (nI 2))]) (wl_ib D [moW cy a u] sz) (va_A ([moW cy a u] : List va_W).flatten sz)) 0 0 (va_A ([moW cy a u] : List va_W).flatten sz) := by
  refine wl_ofI (cc := cX5_lampOf) (maxL := 3) (ret := (some .int)) (by decide) rfl (Nat.le_of_ble_eq_true rfl) ?_
  intro p e s m below meth c ls A hx hb hr hts hown hlocks hml hnm hsz hAe hP hK hD hX hA hS hl
  have hl : lv_has ls 3 [(0, .ref (a 0)), (1, .int (nI i)), (2, .int y)] := hl
  refine lv_aload_n hx hb dX5_lampOf_0 rfl (lv_at hl 0 rfl) ?_
  refine lv_iload_n hx hb dX5_lampOf_1 rfl (lv_at hl 1 rfl) ?_
  refine wl_pS (As := [.int (nI i)]) (rest := [.ref (a 0)]) ⟨hx, hb, hml, hown, hts⟩ (m_X5_isLamp l D cy (nI i) ) (va_cwS 1 hts gX5_lampOf_X5_isLamp rfl rfl rfl (by decide +kernel) ⟨Nat.le_of_ble_eq_true rfl, Nat.le_of_ble_eq_true rfl⟩) hK hP [] rfl rfl hl.1 rfl (Nat.le_of_ble_eq_true rfl) dX5_lampOf_2 ⟨Nat.le_of_ble_eq_true rfl, Nat.le_of_ble_eq_true rfl⟩ (fun r1 er1 => ?_)
  have er1 : r1 = if (¬ (nI i) < 0 ∧ ¬ 7 < (nI i)) then 1 else 0 := er1
  refine wl_b_ne (tgt := 12) hx hb (¬ (nI i) < 0 ∧ ¬ 7 < (nI i)) er1 dX5_lampOf_5 (by decide) (fun c2 => ?_) (fun c2 => absurd (wl_rng3 (a := 0) (b := 7) rfl rfl (by omega) (by omega) (by decide)) c2)
  refine lv_iload_n hx hb dX5_lampOf_12 rfl (lv_at hl 2 rfl) ?_
  refine lv_iconst (v := 0) hx hb dX5_lampOf_13 (by decide) ?_
  refine lv_bipush (v := 7) hx hb dX5_lampOf_14 (by decide) ?_
  refine wl_pS (As := [.int y, .int 0, .int 7]) (rest := [.ref (a 0)]) ⟨hx, hb, hml, hown, hts⟩ (m_X5_in l D cy y 0 7 ) (va_cwS 3 hts gX5_lampOf_X5_in rfl rfl rfl (by decide +kernel) ⟨Nat.le_of_ble_eq_true rfl, Nat.le_of_ble_eq_true rfl⟩) hK hP [] rfl rfl hl.1 rfl (Nat.le_of_ble_eq_true rfl) dX5_lampOf_16 ⟨Nat.le_of_ble_eq_true rfl, Nat.le_of_ble_eq_true rfl⟩ (fun r3 er3 => ?_)
  have er3 : r3 = if (¬ y < 0 ∧ ¬ 7 < y) then 1 else 0 := er3
  refine wl_b_eq (tgt := 26) hx hb (¬ y < 0 ∧ ¬ 7 < y) er3 dX5_lampOf_19 (by decide) (fun c4 => ?_) (fun c4 => absurd c4 hx2)
  refine lv_iconst (v := 2) hx hb dX5_lampOf_26 (by decide) ?_
  refine wl_iV (As := [.int 2]) (rest := []) (bsC := [moW cy a u]) (bsR := []) ⟨hx, hb, hml, hown, hts⟩ (m_X5_refused l D cy a u 2 s.heap.size (by omega)) (cwV 1 hts gX5_lampOf_X5_refused rfl rfl rfl (by decide +kernel) ⟨Nat.le_of_ble_eq_true rfl, Nat.le_of_ble_eq_true rfl⟩) wl_xT (fun _ _ _ => trivial) hK hP hD hS hA rfl rfl rfl rfl rfl hl.1 rfl (Nat.le_of_ble_eq_true rfl) dX5_lampOf_27 ⟨Nat.le_of_ble_eq_true rfl, Nat.le_of_ble_eq_true rfl⟩ (fun r5 bs6 H locs e7 _ _ hP hD hS => ?_)
  obtain ⟨er5, e7⟩ : r5 = (if (0 < 2) then 1 else 0) ∧ bs6 = [moW cy a (su u 6 2 (nI 2))] := e7
  subst e7
  have hP : va_P D vwCl ([moW cy a (su u 6 2 (nI 2))] : List va_W).flatten H := hP
  have hD : va_D A ([moW cy a (su u 6 2 (nI 2))] : List va_W).flatten := hD
  refine wl_b_eq (tgt := 37) hx hb (0 < 2) er5 dX5_lampOf_30 (by decide) (fun c8 => absurd (by decide) c8) (fun c8 => ?_)
  refine lv_iconst (v := 0) hx hb dX5_lampOf_33 (by decide) ?_
  refine lv_goto (tgt := 43) hx hb dX5_lampOf_34 (by decide) ?_
  exact wl_Ri (bs := [moW cy a (su u 6 2 (nI 2))]) (r := 0) hx hb hr hlocks hAe hP hD hS (by exact ⟨rfl, rfl⟩) dX5_lampOf_43
set_option maxHeartbeats 4000000 in
set_option maxRecDepth 100000 in
theorem r_X5_pulseAt (l : Launch) (D : va_G) (cy : Nat → ClassId) (a : Nat → Nat) (u : Nat → Nat → Int32) (i n : Nat) (sz : Nat) (hi : i < 2 ^ 31) (hn : u 0 49 = nI n) (hn2 : n ≤ 120) : Met l yX5_pulseAt wsX5_pulseAt ({ frames := 1, cells := 0, slots := 0, locals := 21 } : Room) (wl_ic D cy (fun _ => True) [moW cy a u] sz [.ref (a 0), .int (nI i)]) (va_Qi (fun (r : Int32) (bs : List va_W) => r = (if i < n then zv u 6 i else -1) ∧ bs = [moW cy a (su u 6 2 (nI 0))]) (wl_ib D [moW cy a u] sz) (va_A ([moW cy a u] : List va_W).flatten sz)) 0 0 (va_A ([moW cy a u] : List va_W).flatten sz) := by
  refine wl_ofI (cc := cX5_pulseAt) (maxL := 2) (ret := (some .int)) (by decide) rfl (Nat.le_of_ble_eq_true rfl) ?_
  intro p e s m below meth c ls A hx hb hr hts hown hlocks hml hnm hsz hAe hP hK hD hX hA hS hl
  have hl : lv_has ls 2 [(0, .ref (a 0)), (1, .int (nI i))] := hl
  have lkf7 := hts (.fieldLink RX5 7 "WireLampsModel" "z" "[I") (by decide +kernel)
  have in_X5 : ∀ w ∈ u_ws RX5 TX5 13, w ∈ wsX5_pulseAt := by decide +kernel
  refine lv_aload_n hx hb dX5_pulseAt_0 rfl (lv_at hl 0 rfl) ?_
  refine lv_iload_n hx hb dX5_pulseAt_1 rfl (lv_at hl 1 rfl) ?_
  refine wl_if_ge (tgt := 9) hx hb i dX5_pulseAt_2 (by decide) (by omega) ?_
  refine lv_iconst (v := 0) hx hb dX5_pulseAt_9 (by decide) ?_
  refine wl_iV (As := [.int 0]) (rest := []) (bsC := [moW cy a u]) (bsR := []) ⟨hx, hb, hml, hown, hts⟩ (m_X5_refused l D cy a u 0 s.heap.size (by omega)) (cwV 1 hts gX5_pulseAt_X5_refused rfl rfl rfl (by decide +kernel) ⟨Nat.le_of_ble_eq_true rfl, Nat.le_of_ble_eq_true rfl⟩) wl_xT (fun _ _ _ => trivial) hK hP hD hS hA rfl rfl rfl rfl rfl hl.1 rfl (Nat.le_of_ble_eq_true rfl) dX5_pulseAt_10 ⟨Nat.le_of_ble_eq_true rfl, Nat.le_of_ble_eq_true rfl⟩ (fun r2 bs3 H locs e4 _ _ hP hD hS => ?_)
  obtain ⟨er2, e4⟩ : r2 = (if (0 < 0) then 1 else 0) ∧ bs3 = [moW cy a (su u 6 2 (nI 0))] := e4
  subst e4
  have hP : va_P D vwCl ([moW cy a (su u 6 2 (nI 0))] : List va_W).flatten H := hP
  have hD : va_D A ([moW cy a (su u 6 2 (nI 0))] : List va_W).flatten := hD
  refine wl_b_eq (tgt := 20) hx hb (0 < 0) er2 dX5_pulseAt_13 (by decide) (fun c5 => ?_) (fun c5 => absurd c5 (by decide))
  refine lv_iload_n hx hb dX5_pulseAt_20 rfl (lv_at hl 1 rfl) ?_
  refine lv_aload_n hx hb dX5_pulseAt_21 rfl (lv_at hl 0 rfl) ?_
  refine wl_getf (C := RX5) (T := TX5) (N := 13) (ci := 5) (v := .ref (a 1)) hx hb hts in_X5 hown hK hP 0 0 rfl rfl rfl 0 (by decide) lkf7 rfl rfl dX5_pulseAt_22 ?_
  refine lv_bipush (v := 49) hx hb dX5_pulseAt_25 (by decide) ?_
  refine wl_iald hx hb hK hP 0 1 rfl rfl 49 (by omega) (Nat.le_of_ble_eq_true rfl) dX5_pulseAt_27 ?_
  refine wl_top (y := nI n) hn ?_
  refine wl_icmp_ge (tgt := 43) hx hb i n dX5_pulseAt_28 (by decide) (by omega) (by omega) (fun c6 => ?_) (fun c6 => ?_)
  · refine lv_iconst (v := (-1)) hx hb dX5_pulseAt_43 (by decide) ?_
    exact wl_Ri (bs := [moW cy a (su u 6 2 (nI 0))]) (r := (-1)) hx hb hr hlocks hAe hP hD hS (by exact ⟨(if_neg (by omega)).symm, rfl⟩) dX5_pulseAt_44
  · refine lv_aload_n hx hb dX5_pulseAt_31 rfl (lv_at hl 0 rfl) ?_
    refine wl_getf (C := RX5) (T := TX5) (N := 13) (ci := 5) (v := .ref (a 1)) hx hb hts in_X5 hown hK hP 0 0 rfl rfl rfl 0 (by decide) lkf7 rfl rfl dX5_pulseAt_32 ?_
    refine lv_bipush (v := 50) hx hb dX5_pulseAt_35 (by decide) ?_
    refine lv_iload_n hx hb dX5_pulseAt_37 rfl (lv_at hl 1 rfl) ?_
    refine lv_iadd hx hb dX5_pulseAt_38 ?_
    refine wl_top (y := nI (50 + i)) (nI_add 50 i) ?_
    refine wl_iald hx hb hK hP 0 1 rfl rfl (50 + i) (by omega) (Nat.le_of_ble_eq_true rfl) dX5_pulseAt_39 ?_
    refine wl_top (y := zv (su u 6 2 (nI 0)) 6 i) rfl ?_
    refine lv_goto (tgt := 44) hx hb dX5_pulseAt_40 (by decide) ?_
    exact wl_Ri (bs := [moW cy a (su u 6 2 (nI 0))]) (r := (zv (su u 6 2 (nI 0)) 6 i)) hx hb hr hlocks hAe hP hD hS (by exact ⟨(if_pos (by omega)).symm, rfl⟩) dX5_pulseAt_44
set_option maxHeartbeats 4000000 in
set_option maxRecDepth 100000 in
theorem r_X5_pulseAt1 (l : Launch) (D : va_G) (cy : Nat → ClassId) (a : Nat → Nat) (u : Nat → Nat → Int32) (y : Int32) (sz : Nat) (hx2 : y < 0) : Met l yX5_pulseAt wsX5_pulseAt ({ frames := 1, cells := 0, slots := 0, locals := 21 } : Room) (wl_ic D cy (fun _ => True) [moW cy a u] sz [.ref (a 0), .int y]) (va_Qi (fun (r : Int32) (bs : List va_W) => r = 0 ∧ bs = [moW cy a (su u 6 2 (nI 1))]) (wl_ib D [moW cy a u] sz) (va_A ([moW cy a u] : List va_W).flatten sz)) 0 0 (va_A ([moW cy a u] : List va_W).flatten sz) := by
  refine wl_ofI (cc := cX5_pulseAt) (maxL := 2) (ret := (some .int)) (by decide) rfl (Nat.le_of_ble_eq_true rfl) ?_
  intro p e s m below meth c ls A hx hb hr hts hown hlocks hml hnm hsz hAe hP hK hD hX hA hS hl
  have hl : lv_has ls 2 [(0, .ref (a 0)), (1, .int y)] := hl
  refine lv_aload_n hx hb dX5_pulseAt_0 rfl (lv_at hl 0 rfl) ?_
  refine lv_iload_n hx hb dX5_pulseAt_1 rfl (lv_at hl 1 rfl) ?_
  refine lv_if_ge (tgt := 9) hx hb dX5_pulseAt_2 (by decide) (fun c1 => absurd hx2 (Int32.not_lt.mpr c1)) (fun c1 => ?_)
  refine lv_iconst (v := 1) hx hb dX5_pulseAt_5 (by decide) ?_
  refine lv_goto (tgt := 10) hx hb dX5_pulseAt_6 (by decide) ?_
  refine wl_iV (As := [.int 1]) (rest := []) (bsC := [moW cy a u]) (bsR := []) ⟨hx, hb, hml, hown, hts⟩ (m_X5_refused l D cy a u 1 s.heap.size (by omega)) (cwV 1 hts gX5_pulseAt_X5_refused rfl rfl rfl (by decide +kernel) ⟨Nat.le_of_ble_eq_true rfl, Nat.le_of_ble_eq_true rfl⟩) wl_xT (fun _ _ _ => trivial) hK hP hD hS hA rfl rfl rfl rfl rfl hl.1 rfl (Nat.le_of_ble_eq_true rfl) dX5_pulseAt_10 ⟨Nat.le_of_ble_eq_true rfl, Nat.le_of_ble_eq_true rfl⟩ (fun r2 bs3 H locs e4 _ _ hP hD hS => ?_)
  obtain ⟨er2, e4⟩ : r2 = (if (0 < 1) then 1 else 0) ∧ bs3 = [moW cy a (su u 6 2 (nI 1))] := e4
  subst e4
  have hP : va_P D vwCl ([moW cy a (su u 6 2 (nI 1))] : List va_W).flatten H := hP
  have hD : va_D A ([moW cy a (su u 6 2 (nI 1))] : List va_W).flatten := hD
  refine wl_b_eq (tgt := 20) hx hb (0 < 1) er2 dX5_pulseAt_13 (by decide) (fun c5 => absurd (by decide) c5) (fun c5 => ?_)
  refine lv_iconst (v := 0) hx hb dX5_pulseAt_16 (by decide) ?_
  refine lv_goto (tgt := 44) hx hb dX5_pulseAt_17 (by decide) ?_
  exact wl_Ri (bs := [moW cy a (su u 6 2 (nI 1))]) (r := 0) hx hb hr hlocks hAe hP hD hS (by exact ⟨rfl, rfl⟩) dX5_pulseAt_44
set_option maxHeartbeats 4000000 in
set_option maxRecDepth 100000 in
theorem r_X5_count (l : Launch) (D : va_G) (cy : Nat → ClassId) (a : Nat → Nat) (u : Nat → Nat → Int32) (k : Nat) (sz : Nat) (hk : k < 11) (hs : ¬ zv u 5 2 < 0) : Met l yX5_count wsX5_count ({ frames := 5, cells := 0, slots := 0, locals := 112 } : Room) (wl_ic D cy (fun _ => True) [moW cy a u] sz [.ref (a 0), .int (nI k)]) (va_Qi (fun (r : Int32) (bs : List va_W) => r = q_nm u k ∧ bs = [moW cy a (su u 6 2 (nI 0))]) (wl_ib D [moW cy a u] sz) (va_A ([moW cy a u] : List va_W).flatten sz)) 0 0 (va_A ([moW cy a u] : List va_W).flatten sz) := by
  refine wl_ofI (cc := cX5_count) (maxL := 2) (ret := (some .int)) (by decide) rfl (Nat.le_of_ble_eq_true rfl) ?_
  intro p e s m below meth c ls A hx hb hr hts hown hlocks hml hnm hsz hAe hP hK hD hX hA hS hl
  have hl : lv_has ls 2 [(0, .ref (a 0)), (1, .int (nI k))] := hl
  refine lv_aload_n hx hb dX5_count_0 rfl (lv_at hl 0 rfl) ?_
  refine lv_iload_n hx hb dX5_count_1 rfl (lv_at hl 1 rfl) ?_
  refine lv_iconst (v := 0) hx hb dX5_count_2 (by decide) ?_
  refine lv_bipush (v := 10) hx hb dX5_count_3 (by decide) ?_
  refine wl_pS (As := [.int (nI k), .int 0, .int 10]) (rest := [.ref (a 0)]) ⟨hx, hb, hml, hown, hts⟩ (m_X5_in l D cy (nI k) 0 10 ) (va_cwS 3 hts gX5_count_X5_in rfl rfl rfl (by decide +kernel) ⟨Nat.le_of_ble_eq_true rfl, Nat.le_of_ble_eq_true rfl⟩) hK hP [] rfl rfl hl.1 rfl (Nat.le_of_ble_eq_true rfl) dX5_count_5 ⟨Nat.le_of_ble_eq_true rfl, Nat.le_of_ble_eq_true rfl⟩ (fun r1 er1 => ?_)
  have er1 : r1 = if (¬ (nI k) < 0 ∧ ¬ 10 < (nI k)) then 1 else 0 := er1
  refine wl_b_eq (tgt := 15) hx hb (¬ (nI k) < 0 ∧ ¬ 10 < (nI k)) er1 dX5_count_8 (by decide) (fun c2 => absurd (wl_rng3 (a := 0) (b := 10) rfl rfl (by omega) (by omega) (by decide)) c2) (fun c2 => ?_)
  refine lv_iconst (v := 0) hx hb dX5_count_11 (by decide) ?_
  refine lv_goto (tgt := 16) hx hb dX5_count_12 (by decide) ?_
  refine wl_iV (As := [.int 0]) (rest := []) (bsC := [moW cy a u]) (bsR := []) ⟨hx, hb, hml, hown, hts⟩ (m_X5_refused l D cy a u 0 s.heap.size (by omega)) (cwV 1 hts gX5_count_X5_refused rfl rfl rfl (by decide +kernel) ⟨Nat.le_of_ble_eq_true rfl, Nat.le_of_ble_eq_true rfl⟩) wl_xT (fun _ _ _ => trivial) hK hP hD hS hA rfl rfl rfl rfl rfl hl.1 rfl (Nat.le_of_ble_eq_true rfl) dX5_count_16 ⟨Nat.le_of_ble_eq_true rfl, Nat.le_of_ble_eq_true rfl⟩ (fun r3 bs4 H locs e5 _ _ hP hD hS => ?_)
  obtain ⟨er3, e5⟩ : r3 = (if (0 < 0) then 1 else 0) ∧ bs4 = [moW cy a (su u 6 2 (nI 0))] := e5
  subst e5
  have hP : va_P D vwCl ([moW cy a (su u 6 2 (nI 0))] : List va_W).flatten H := hP
  have hD : va_D A ([moW cy a (su u 6 2 (nI 0))] : List va_W).flatten := hD
  refine wl_b_eq (tgt := 26) hx hb (0 < 0) er3 dX5_count_19 (by decide) (fun c6 => ?_) (fun c6 => absurd c6 (by decide))
  refine lv_aload_n hx hb dX5_count_26 rfl (lv_at hl 0 rfl) ?_
  refine lv_iload_n hx hb dX5_count_27 rfl (lv_at hl 1 rfl) ?_
  refine wl_pV (As := [.int (nI k)]) (rest := []) ⟨hx, hb, hml, hown, hts⟩ (m_X5_number l D cy a (su u 6 2 (nI 0)) k (by omega) hs) (cwV 1 hts gX5_count_X5_number rfl rfl rfl (by decide +kernel) ⟨Nat.le_of_ble_eq_true rfl, Nat.le_of_ble_eq_true rfl⟩) hK hP [0] rfl rfl rfl rfl rfl rfl hl.1 rfl (Nat.le_of_ble_eq_true rfl) dX5_count_28 ⟨Nat.le_of_ble_eq_true rfl, Nat.le_of_ble_eq_true rfl⟩ (fun r7 er7 => ?_)
  have er7 : r7 = q_nm (su u 6 2 (nI 0)) k := er7
  subst er7
  exact wl_Ri (bs := [moW cy a (su u 6 2 (nI 0))]) (r := (q_nm (su u 6 2 (nI 0)) k)) hx hb hr hlocks hAe hP hD hS (by exact ⟨rfl, rfl⟩) dX5_count_31
set_option maxHeartbeats 4000000 in
set_option maxRecDepth 100000 in
theorem r_X5_count1 (l : Launch) (D : va_G) (cy : Nat → ClassId) (a : Nat → Nat) (u : Nat → Nat → Int32) (y : Int32) (sz : Nat) (hx2 : ¬ (¬ y < 0 ∧ ¬ 10 < y)) : Met l yX5_count wsX5_count ({ frames := 1, cells := 0, slots := 0, locals := 22 } : Room) (wl_ic D cy (fun _ => True) [moW cy a u] sz [.ref (a 0), .int y]) (va_Qi (fun (r : Int32) (bs : List va_W) => r = 0 ∧ bs = [moW cy a (su u 6 2 (nI 1))]) (wl_ib D [moW cy a u] sz) (va_A ([moW cy a u] : List va_W).flatten sz)) 0 0 (va_A ([moW cy a u] : List va_W).flatten sz) := by
  refine wl_ofI (cc := cX5_count) (maxL := 2) (ret := (some .int)) (by decide) rfl (Nat.le_of_ble_eq_true rfl) ?_
  intro p e s m below meth c ls A hx hb hr hts hown hlocks hml hnm hsz hAe hP hK hD hX hA hS hl
  have hl : lv_has ls 2 [(0, .ref (a 0)), (1, .int y)] := hl
  refine lv_aload_n hx hb dX5_count_0 rfl (lv_at hl 0 rfl) ?_
  refine lv_iload_n hx hb dX5_count_1 rfl (lv_at hl 1 rfl) ?_
  refine lv_iconst (v := 0) hx hb dX5_count_2 (by decide) ?_
  refine lv_bipush (v := 10) hx hb dX5_count_3 (by decide) ?_
  refine wl_pS (As := [.int y, .int 0, .int 10]) (rest := [.ref (a 0)]) ⟨hx, hb, hml, hown, hts⟩ (m_X5_in l D cy y 0 10 ) (va_cwS 3 hts gX5_count_X5_in rfl rfl rfl (by decide +kernel) ⟨Nat.le_of_ble_eq_true rfl, Nat.le_of_ble_eq_true rfl⟩) hK hP [] rfl rfl hl.1 rfl (Nat.le_of_ble_eq_true rfl) dX5_count_5 ⟨Nat.le_of_ble_eq_true rfl, Nat.le_of_ble_eq_true rfl⟩ (fun r1 er1 => ?_)
  have er1 : r1 = if (¬ y < 0 ∧ ¬ 10 < y) then 1 else 0 := er1
  refine wl_b_eq (tgt := 15) hx hb (¬ y < 0 ∧ ¬ 10 < y) er1 dX5_count_8 (by decide) (fun c2 => ?_) (fun c2 => absurd c2 hx2)
  refine lv_iconst (v := 1) hx hb dX5_count_15 (by decide) ?_
  refine wl_iV (As := [.int 1]) (rest := []) (bsC := [moW cy a u]) (bsR := []) ⟨hx, hb, hml, hown, hts⟩ (m_X5_refused l D cy a u 1 s.heap.size (by omega)) (cwV 1 hts gX5_count_X5_refused rfl rfl rfl (by decide +kernel) ⟨Nat.le_of_ble_eq_true rfl, Nat.le_of_ble_eq_true rfl⟩) wl_xT (fun _ _ _ => trivial) hK hP hD hS hA rfl rfl rfl rfl rfl hl.1 rfl (Nat.le_of_ble_eq_true rfl) dX5_count_16 ⟨Nat.le_of_ble_eq_true rfl, Nat.le_of_ble_eq_true rfl⟩ (fun r3 bs4 H locs e5 _ _ hP hD hS => ?_)
  obtain ⟨er3, e5⟩ : r3 = (if (0 < 1) then 1 else 0) ∧ bs4 = [moW cy a (su u 6 2 (nI 1))] := e5
  subst e5
  have hP : va_P D vwCl ([moW cy a (su u 6 2 (nI 1))] : List va_W).flatten H := hP
  have hD : va_D A ([moW cy a (su u 6 2 (nI 1))] : List va_W).flatten := hD
  refine wl_b_eq (tgt := 26) hx hb (0 < 1) er3 dX5_count_19 (by decide) (fun c6 => absurd (by decide) c6) (fun c6 => ?_)
  refine lv_iconst (v := 0) hx hb dX5_count_22 (by decide) ?_
  refine lv_goto (tgt := 31) hx hb dX5_count_23 (by decide) ?_
  exact wl_Ri (bs := [moW cy a (su u 6 2 (nI 1))]) (r := 0) hx hb hr hlocks hAe hP hD hS (by exact ⟨rfl, rfl⟩) dX5_count_31
set_option maxHeartbeats 4000000 in
set_option maxRecDepth 100000 in
theorem r_X5_setting (l : Launch) (D : va_G) (cy : Nat → ClassId) (a : Nat → Nat) (u : Nat → Nat → Int32) (i : Nat) (sz : Nat) (hi : i < 3) : Met l yX5_setting wsX5_setting ({ frames := 1, cells := 0, slots := 0, locals := 22 } : Room) (wl_ic D cy (fun _ => True) [moW cy a u] sz [.ref (a 0), .int (nI i)]) (va_Qi (fun (r : Int32) (bs : List va_W) => r = zv u 5 i ∧ bs = [moW cy a (su u 6 2 (nI 0))]) (wl_ib D [moW cy a u] sz) (va_A ([moW cy a u] : List va_W).flatten sz)) 0 0 (va_A ([moW cy a u] : List va_W).flatten sz) := by
  refine wl_ofI (cc := cX5_setting) (maxL := 2) (ret := (some .int)) (by decide) rfl (Nat.le_of_ble_eq_true rfl) ?_
  intro p e s m below meth c ls A hx hb hr hts hown hlocks hml hnm hsz hAe hP hK hD hX hA hS hl
  have hl : lv_has ls 2 [(0, .ref (a 0)), (1, .int (nI i))] := hl
  have lkf7 := hts (.fieldLink RX5 7 "WireLampsModel" "z" "[I") (by decide +kernel)
  have in_X5 : ∀ w ∈ u_ws RX5 TX5 13, w ∈ wsX5_setting := by decide +kernel
  refine lv_aload_n hx hb dX5_setting_0 rfl (lv_at hl 0 rfl) ?_
  refine lv_iload_n hx hb dX5_setting_1 rfl (lv_at hl 1 rfl) ?_
  refine lv_iconst (v := 0) hx hb dX5_setting_2 (by decide) ?_
  refine lv_iconst (v := 2) hx hb dX5_setting_3 (by decide) ?_
  refine wl_pS (As := [.int (nI i), .int 0, .int 2]) (rest := [.ref (a 0)]) ⟨hx, hb, hml, hown, hts⟩ (m_X5_in l D cy (nI i) 0 2 ) (va_cwS 3 hts gX5_setting_X5_in rfl rfl rfl (by decide +kernel) ⟨Nat.le_of_ble_eq_true rfl, Nat.le_of_ble_eq_true rfl⟩) hK hP [] rfl rfl hl.1 rfl (Nat.le_of_ble_eq_true rfl) dX5_setting_4 ⟨Nat.le_of_ble_eq_true rfl, Nat.le_of_ble_eq_true rfl⟩ (fun r1 er1 => ?_)
  have er1 : r1 = if (¬ (nI i) < 0 ∧ ¬ 2 < (nI i)) then 1 else 0 := er1
  refine wl_b_eq (tgt := 14) hx hb (¬ (nI i) < 0 ∧ ¬ 2 < (nI i)) er1 dX5_setting_7 (by decide) (fun c2 => absurd (wl_rng3 (a := 0) (b := 2) rfl rfl (by omega) (by omega) (by decide)) c2) (fun c2 => ?_)
  refine lv_iconst (v := 0) hx hb dX5_setting_10 (by decide) ?_
  refine lv_goto (tgt := 15) hx hb dX5_setting_11 (by decide) ?_
  refine wl_iV (As := [.int 0]) (rest := []) (bsC := [moW cy a u]) (bsR := []) ⟨hx, hb, hml, hown, hts⟩ (m_X5_refused l D cy a u 0 s.heap.size (by omega)) (cwV 1 hts gX5_setting_X5_refused rfl rfl rfl (by decide +kernel) ⟨Nat.le_of_ble_eq_true rfl, Nat.le_of_ble_eq_true rfl⟩) wl_xT (fun _ _ _ => trivial) hK hP hD hS hA rfl rfl rfl rfl rfl hl.1 rfl (Nat.le_of_ble_eq_true rfl) dX5_setting_15 ⟨Nat.le_of_ble_eq_true rfl, Nat.le_of_ble_eq_true rfl⟩ (fun r3 bs4 H locs e5 _ _ hP hD hS => ?_)
  obtain ⟨er3, e5⟩ : r3 = (if (0 < 0) then 1 else 0) ∧ bs4 = [moW cy a (su u 6 2 (nI 0))] := e5
  subst e5
  have hP : va_P D vwCl ([moW cy a (su u 6 2 (nI 0))] : List va_W).flatten H := hP
  have hD : va_D A ([moW cy a (su u 6 2 (nI 0))] : List va_W).flatten := hD
  refine wl_b_eq (tgt := 25) hx hb (0 < 0) er3 dX5_setting_18 (by decide) (fun c6 => ?_) (fun c6 => absurd c6 (by decide))
  refine lv_aload_n hx hb dX5_setting_25 rfl (lv_at hl 0 rfl) ?_
  refine wl_getf (C := RX5) (T := TX5) (N := 13) (ci := 5) (v := .ref (a 1)) hx hb hts in_X5 hown hK hP 0 0 rfl rfl rfl 0 (by decide) lkf7 rfl rfl dX5_setting_26 ?_
  refine lv_bipush (v := 40) hx hb dX5_setting_29 (by decide) ?_
  refine lv_iload_n hx hb dX5_setting_31 rfl (lv_at hl 1 rfl) ?_
  refine lv_iadd hx hb dX5_setting_32 ?_
  refine wl_top (y := nI (40 + i)) (nI_add 40 i) ?_
  refine wl_iald hx hb hK hP 0 1 rfl rfl (40 + i) (by omega) (Nat.le_of_ble_eq_true rfl) dX5_setting_33 ?_
  refine wl_top (y := zv (su u 6 2 (nI 0)) 5 i) rfl ?_
  exact wl_Ri (bs := [moW cy a (su u 6 2 (nI 0))]) (r := (zv (su u 6 2 (nI 0)) 5 i)) hx hb hr hlocks hAe hP hD hS (by exact ⟨rfl, rfl⟩) dX5_setting_34
set_option maxHeartbeats 4000000 in
set_option maxRecDepth 100000 in
theorem r_X5_setting1 (l : Launch) (D : va_G) (cy : Nat → ClassId) (a : Nat → Nat) (u : Nat → Nat → Int32) (y : Int32) (sz : Nat) (hx2 : ¬ (¬ y < 0 ∧ ¬ 2 < y)) : Met l yX5_setting wsX5_setting ({ frames := 1, cells := 0, slots := 0, locals := 22 } : Room) (wl_ic D cy (fun _ => True) [moW cy a u] sz [.ref (a 0), .int y]) (va_Qi (fun (r : Int32) (bs : List va_W) => r = 0 ∧ bs = [moW cy a (su u 6 2 (nI 1))]) (wl_ib D [moW cy a u] sz) (va_A ([moW cy a u] : List va_W).flatten sz)) 0 0 (va_A ([moW cy a u] : List va_W).flatten sz) := by
  refine wl_ofI (cc := cX5_setting) (maxL := 2) (ret := (some .int)) (by decide) rfl (Nat.le_of_ble_eq_true rfl) ?_
  intro p e s m below meth c ls A hx hb hr hts hown hlocks hml hnm hsz hAe hP hK hD hX hA hS hl
  have hl : lv_has ls 2 [(0, .ref (a 0)), (1, .int y)] := hl
  refine lv_aload_n hx hb dX5_setting_0 rfl (lv_at hl 0 rfl) ?_
  refine lv_iload_n hx hb dX5_setting_1 rfl (lv_at hl 1 rfl) ?_
  refine lv_iconst (v := 0) hx hb dX5_setting_2 (by decide) ?_
  refine lv_iconst (v := 2) hx hb dX5_setting_3 (by decide) ?_
  refine wl_pS (As := [.int y, .int 0, .int 2]) (rest := [.ref (a 0)]) ⟨hx, hb, hml, hown, hts⟩ (m_X5_in l D cy y 0 2 ) (va_cwS 3 hts gX5_setting_X5_in rfl rfl rfl (by decide +kernel) ⟨Nat.le_of_ble_eq_true rfl, Nat.le_of_ble_eq_true rfl⟩) hK hP [] rfl rfl hl.1 rfl (Nat.le_of_ble_eq_true rfl) dX5_setting_4 ⟨Nat.le_of_ble_eq_true rfl, Nat.le_of_ble_eq_true rfl⟩ (fun r1 er1 => ?_)
  have er1 : r1 = if (¬ y < 0 ∧ ¬ 2 < y) then 1 else 0 := er1
  refine wl_b_eq (tgt := 14) hx hb (¬ y < 0 ∧ ¬ 2 < y) er1 dX5_setting_7 (by decide) (fun c2 => ?_) (fun c2 => absurd c2 hx2)
  refine lv_iconst (v := 1) hx hb dX5_setting_14 (by decide) ?_
  refine wl_iV (As := [.int 1]) (rest := []) (bsC := [moW cy a u]) (bsR := []) ⟨hx, hb, hml, hown, hts⟩ (m_X5_refused l D cy a u 1 s.heap.size (by omega)) (cwV 1 hts gX5_setting_X5_refused rfl rfl rfl (by decide +kernel) ⟨Nat.le_of_ble_eq_true rfl, Nat.le_of_ble_eq_true rfl⟩) wl_xT (fun _ _ _ => trivial) hK hP hD hS hA rfl rfl rfl rfl rfl hl.1 rfl (Nat.le_of_ble_eq_true rfl) dX5_setting_15 ⟨Nat.le_of_ble_eq_true rfl, Nat.le_of_ble_eq_true rfl⟩ (fun r3 bs4 H locs e5 _ _ hP hD hS => ?_)
  obtain ⟨er3, e5⟩ : r3 = (if (0 < 1) then 1 else 0) ∧ bs4 = [moW cy a (su u 6 2 (nI 1))] := e5
  subst e5
  have hP : va_P D vwCl ([moW cy a (su u 6 2 (nI 1))] : List va_W).flatten H := hP
  have hD : va_D A ([moW cy a (su u 6 2 (nI 1))] : List va_W).flatten := hD
  refine wl_b_eq (tgt := 25) hx hb (0 < 1) er3 dX5_setting_18 (by decide) (fun c6 => absurd (by decide) c6) (fun c6 => ?_)
  refine lv_iconst (v := 0) hx hb dX5_setting_21 (by decide) ?_
  refine lv_goto (tgt := 34) hx hb dX5_setting_22 (by decide) ?_
  exact wl_Ri (bs := [moW cy a (su u 6 2 (nI 1))]) (r := 0) hx hb hr hlocks hAe hP hD hS (by exact ⟨rfl, rfl⟩) dX5_setting_34
set_option maxHeartbeats 4000000 in
set_option maxRecDepth 100000 in
theorem r_X5_ifGap (l : Launch) (D : va_G) (cy : Nat → ClassId) (a : Nat → Nat) (u : Nat → Nat → Int32) (i k n : Nat) (sz : Nat) (hi : i < 8) (hk : k ≤ 1) (ht : u 6 3 = -1) (hn : u 0 49 = nI n) (hn2 : n ≤ 120) : Met l yX5_ifGap wsX5_ifGap ({ frames := 5, cells := 0, slots := 0, locals := 111 } : Room) (wl_ic D cy (fun _ => True) [moW cy a u] sz [.ref (a 0), .int (nI i), .int (nI k)]) (va_Qi (fun (r : Int32) (bs : List va_W) => r = q_wb (su (su u 6 2 (nI 0)) 6 3 (-1)) n i ∧ bs = [moW cy a (su u 6 2 (nI 0))]) (wl_ib D [moW cy a u] sz) (va_A ([moW cy a u] : List va_W).flatten sz)) 0 0 (va_A ([moW cy a u] : List va_W).flatten sz) := by
  refine wl_ofI (cc := cX5_ifGap) (maxL := 3) (ret := (some .int)) (by decide) rfl (Nat.le_of_ble_eq_true rfl) ?_
  intro p e s m below meth c ls A hx hb hr hts hown hlocks hml hnm hsz hAe hP hK hD hX hA hS hl
  have hl : lv_has ls 3 [(0, .ref (a 0)), (1, .int (nI i)), (2, .int (nI k))] := hl
  have lkf26 := hts (.fieldLink RX5 26 "WireLampsModel" "trial" "I") (by decide +kernel)
  have in_X5 : ∀ w ∈ u_ws RX5 TX5 13, w ∈ wsX5_ifGap := by decide +kernel
  refine lv_aload_n hx hb dX5_ifGap_0 rfl (lv_at hl 0 rfl) ?_
  refine lv_iload_n hx hb dX5_ifGap_1 rfl (lv_at hl 1 rfl) ?_
  refine wl_pS (As := [.int (nI i)]) (rest := [.ref (a 0)]) ⟨hx, hb, hml, hown, hts⟩ (m_X5_isLamp l D cy (nI i) ) (va_cwS 1 hts gX5_ifGap_X5_isLamp rfl rfl rfl (by decide +kernel) ⟨Nat.le_of_ble_eq_true rfl, Nat.le_of_ble_eq_true rfl⟩) hK hP [] rfl rfl hl.1 rfl (Nat.le_of_ble_eq_true rfl) dX5_ifGap_2 ⟨Nat.le_of_ble_eq_true rfl, Nat.le_of_ble_eq_true rfl⟩ (fun r1 er1 => ?_)
  have er1 : r1 = if (¬ (nI i) < 0 ∧ ¬ 7 < (nI i)) then 1 else 0 := er1
  refine wl_b_ne (tgt := 12) hx hb (¬ (nI i) < 0 ∧ ¬ 7 < (nI i)) er1 dX5_ifGap_5 (by decide) (fun c2 => ?_) (fun c2 => absurd (wl_rng3 (a := 0) (b := 7) rfl rfl (by omega) (by omega) (by decide)) c2)
  refine lv_iload_n hx hb dX5_ifGap_12 rfl (lv_at hl 2 rfl) ?_
  refine lv_iconst (v := 0) hx hb dX5_ifGap_13 (by decide) ?_
  refine lv_iconst (v := 1) hx hb dX5_ifGap_14 (by decide) ?_
  refine wl_pS (As := [.int (nI k), .int 0, .int 1]) (rest := [.ref (a 0)]) ⟨hx, hb, hml, hown, hts⟩ (m_X5_in l D cy (nI k) 0 1 ) (va_cwS 3 hts gX5_ifGap_X5_in rfl rfl rfl (by decide +kernel) ⟨Nat.le_of_ble_eq_true rfl, Nat.le_of_ble_eq_true rfl⟩) hK hP [] rfl rfl hl.1 rfl (Nat.le_of_ble_eq_true rfl) dX5_ifGap_15 ⟨Nat.le_of_ble_eq_true rfl, Nat.le_of_ble_eq_true rfl⟩ (fun r3 er3 => ?_)
  have er3 : r3 = if (¬ (nI k) < 0 ∧ ¬ 1 < (nI k)) then 1 else 0 := er3
  refine wl_b_eq (tgt := 25) hx hb (¬ (nI k) < 0 ∧ ¬ 1 < (nI k)) er3 dX5_ifGap_18 (by decide) (fun c4 => absurd (wl_rng3 (a := 0) (b := 1) rfl rfl (by omega) (by omega) (by decide)) c4) (fun c4 => ?_)
  refine lv_iconst (v := 0) hx hb dX5_ifGap_21 (by decide) ?_
  refine lv_goto (tgt := 26) hx hb dX5_ifGap_22 (by decide) ?_
  refine wl_iV (As := [.int 0]) (rest := []) (bsC := [moW cy a u]) (bsR := []) ⟨hx, hb, hml, hown, hts⟩ (m_X5_refused l D cy a u 0 s.heap.size (by omega)) (cwV 1 hts gX5_ifGap_X5_refused rfl rfl rfl (by decide +kernel) ⟨Nat.le_of_ble_eq_true rfl, Nat.le_of_ble_eq_true rfl⟩) wl_xT (fun _ _ _ => trivial) hK hP hD hS hA rfl rfl rfl rfl rfl hl.1 rfl (Nat.le_of_ble_eq_true rfl) dX5_ifGap_26 ⟨Nat.le_of_ble_eq_true rfl, Nat.le_of_ble_eq_true rfl⟩ (fun r5 bs6 H locs e7 _ _ hP hD hS => ?_)
  obtain ⟨er5, e7⟩ : r5 = (if (0 < 0) then 1 else 0) ∧ bs6 = [moW cy a (su u 6 2 (nI 0))] := e7
  subst e7
  have hP : va_P D vwCl ([moW cy a (su u 6 2 (nI 0))] : List va_W).flatten H := hP
  have hD : va_D A ([moW cy a (su u 6 2 (nI 0))] : List va_W).flatten := hD
  refine wl_b_eq (tgt := 34) hx hb (0 < 0) er5 dX5_ifGap_29 (by decide) (fun c8 => ?_) (fun c8 => absurd c8 (by decide))
  refine lv_aload_n hx hb dX5_ifGap_34 rfl (lv_at hl 0 rfl) ?_
  refine lv_iconst (v := (-1)) hx hb dX5_ifGap_35 (by decide) ?_
  refine wl_putf (C := RX5) (T := TX5) (N := 13) (ci := 5) (v := .int (-1)) hx hb hts in_X5 tyX5 tyX5_ok nmX5 hown hK hP hD hS 0 0 rfl rfl rfl 8 (by decide) lkf26 rfl rfl rfl rfl (Nat.le_of_ble_eq_true rfl) dX5_ifGap_36 (fun H locs hP hD hS => ?_)
  have hP : va_P D vwCl ([moW cy a (su (su u 6 2 (nI 0)) 6 3 (-1))] : List va_W).flatten H := hP
  have hD : va_D A ([moW cy a (su (su u 6 2 (nI 0)) 6 3 (-1))] : List va_W).flatten := hD
  refine lv_aload_n hx hb dX5_ifGap_39 rfl (lv_at hl 0 rfl) ?_
  refine lv_iload_n hx hb dX5_ifGap_40 rfl (lv_at hl 1 rfl) ?_
  refine wl_pV (As := [.int (nI i)]) (rest := []) ⟨hx, hb, hml, hown, hts⟩ (m_X5_wordBehind l D cy a (su (su u 6 2 (nI 0)) 6 3 (-1)) i n (by omega) (Or.inl ⟨rfl, hn⟩) (by omega)) (cwV 1 hts gX5_ifGap_X5_wordBehind rfl rfl rfl (by decide +kernel) ⟨Nat.le_of_ble_eq_true rfl, Nat.le_of_ble_eq_true rfl⟩) hK hP [0] rfl rfl rfl rfl rfl rfl hl.1 rfl (Nat.le_of_ble_eq_true rfl) dX5_ifGap_41 ⟨Nat.le_of_ble_eq_true rfl, Nat.le_of_ble_eq_true rfl⟩ (fun r9 er9 => ?_)
  have er9 : r9 = q_wb (su (su u 6 2 (nI 0)) 6 3 (-1)) n i := er9
  subst er9
  exact wl_Ri (bs := [moW cy a (su (su u 6 2 (nI 0)) 6 3 (-1))]) (r := (q_wb (su (su u 6 2 (nI 0)) 6 3 (-1)) n i)) hx hb hr hlocks hAe hP hD hS (by exact ⟨rfl, congrArg (fun y => [moW cy a y]) (su_same (u := su u 6 2 (nI 0)) ht)⟩) dX5_ifGap_44
set_option maxHeartbeats 4000000 in
set_option maxRecDepth 100000 in
theorem r_X5_ifGap1 (l : Launch) (D : va_G) (cy : Nat → ClassId) (a : Nat → Nat) (u : Nat → Nat → Int32) (y y2 : Int32) (sz : Nat) (hx2 : ¬ (¬ y < 0 ∧ ¬ 7 < y)) : Met l yX5_ifGap wsX5_ifGap ({ frames := 2, cells := 0, slots := 0, locals := 42 } : Room) (wl_ic D cy (fun _ => True) [moW cy a u] sz [.ref (a 0), .int y, .int y2]) (va_Qi (fun (r : Int32) (bs : List va_W) => r = 0 ∧ bs = [moW cy a (su u 6 2 (nI 1))]) (wl_ib D [moW cy a u] sz) (va_A ([moW cy a u] : List va_W).flatten sz)) 0 0 (va_A ([moW cy a u] : List va_W).flatten sz) := by
  refine wl_ofI (cc := cX5_ifGap) (maxL := 3) (ret := (some .int)) (by decide) rfl (Nat.le_of_ble_eq_true rfl) ?_
  intro p e s m below meth c ls A hx hb hr hts hown hlocks hml hnm hsz hAe hP hK hD hX hA hS hl
  have hl : lv_has ls 3 [(0, .ref (a 0)), (1, .int y), (2, .int y2)] := hl
  refine lv_aload_n hx hb dX5_ifGap_0 rfl (lv_at hl 0 rfl) ?_
  refine lv_iload_n hx hb dX5_ifGap_1 rfl (lv_at hl 1 rfl) ?_
  refine wl_pS (As := [.int y]) (rest := [.ref (a 0)]) ⟨hx, hb, hml, hown, hts⟩ (m_X5_isLamp l D cy y ) (va_cwS 1 hts gX5_ifGap_X5_isLamp rfl rfl rfl (by decide +kernel) ⟨Nat.le_of_ble_eq_true rfl, Nat.le_of_ble_eq_true rfl⟩) hK hP [] rfl rfl hl.1 rfl (Nat.le_of_ble_eq_true rfl) dX5_ifGap_2 ⟨Nat.le_of_ble_eq_true rfl, Nat.le_of_ble_eq_true rfl⟩ (fun r1 er1 => ?_)
  have er1 : r1 = if (¬ y < 0 ∧ ¬ 7 < y) then 1 else 0 := er1
  refine wl_b_ne (tgt := 12) hx hb (¬ y < 0 ∧ ¬ 7 < y) er1 dX5_ifGap_5 (by decide) (fun c2 => absurd c2 hx2) (fun c2 => ?_)
  refine lv_iconst (v := 1) hx hb dX5_ifGap_8 (by decide) ?_
  refine lv_goto (tgt := 26) hx hb dX5_ifGap_9 (by decide) ?_
  refine wl_iV (As := [.int 1]) (rest := []) (bsC := [moW cy a u]) (bsR := []) ⟨hx, hb, hml, hown, hts⟩ (m_X5_refused l D cy a u 1 s.heap.size (by omega)) (cwV 1 hts gX5_ifGap_X5_refused rfl rfl rfl (by decide +kernel) ⟨Nat.le_of_ble_eq_true rfl, Nat.le_of_ble_eq_true rfl⟩) wl_xT (fun _ _ _ => trivial) hK hP hD hS hA rfl rfl rfl rfl rfl hl.1 rfl (Nat.le_of_ble_eq_true rfl) dX5_ifGap_26 ⟨Nat.le_of_ble_eq_true rfl, Nat.le_of_ble_eq_true rfl⟩ (fun r3 bs4 H locs e5 _ _ hP hD hS => ?_)
  obtain ⟨er3, e5⟩ : r3 = (if (0 < 1) then 1 else 0) ∧ bs4 = [moW cy a (su u 6 2 (nI 1))] := e5
  subst e5
  have hP : va_P D vwCl ([moW cy a (su u 6 2 (nI 1))] : List va_W).flatten H := hP
  have hD : va_D A ([moW cy a (su u 6 2 (nI 1))] : List va_W).flatten := hD
  refine wl_b_eq (tgt := 34) hx hb (0 < 1) er3 dX5_ifGap_29 (by decide) (fun c6 => absurd (by decide) c6) (fun c6 => ?_)
  refine lv_iconst (v := 0) hx hb dX5_ifGap_32 (by decide) ?_
  exact wl_Ri (bs := [moW cy a (su u 6 2 (nI 1))]) (r := 0) hx hb hr hlocks hAe hP hD hS (by exact ⟨rfl, rfl⟩) dX5_ifGap_33
set_option maxHeartbeats 4000000 in
set_option maxRecDepth 100000 in
theorem r_X5_ifGap2 (l : Launch) (D : va_G) (cy : Nat → ClassId) (a : Nat → Nat) (u : Nat → Nat → Int32) (i : Nat) (y : Int32) (sz : Nat) (hi : i < 8) (hx2 : ¬ (¬ y < 0 ∧ ¬ 1 < y)) : Met l yX5_ifGap wsX5_ifGap ({ frames := 2, cells := 0, slots := 0, locals := 42 } : Room) (wl_ic D cy (fun _ => True) [moW cy a u] sz [.ref (a 0), .int (nI i), .int y]) (va_Qi (fun (r : Int32) (bs : List va_W) => r = 0 ∧ bs = [moW cy a (su u 6 2 (nI 2))]) (wl_ib D [moW cy a u] sz) (va_A ([moW cy a u] : List va_W).flatten sz)) 0 0 (va_A ([moW cy a u] : List va_W).flatten sz) := by
  refine wl_ofI (cc := cX5_ifGap) (maxL := 3) (ret := (some .int)) (by decide) rfl (Nat.le_of_ble_eq_true rfl) ?_
  intro p e s m below meth c ls A hx hb hr hts hown hlocks hml hnm hsz hAe hP hK hD hX hA hS hl
  have hl : lv_has ls 3 [(0, .ref (a 0)), (1, .int (nI i)), (2, .int y)] := hl
  refine lv_aload_n hx hb dX5_ifGap_0 rfl (lv_at hl 0 rfl) ?_
  refine lv_iload_n hx hb dX5_ifGap_1 rfl (lv_at hl 1 rfl) ?_
  refine wl_pS (As := [.int (nI i)]) (rest := [.ref (a 0)]) ⟨hx, hb, hml, hown, hts⟩ (m_X5_isLamp l D cy (nI i) ) (va_cwS 1 hts gX5_ifGap_X5_isLamp rfl rfl rfl (by decide +kernel) ⟨Nat.le_of_ble_eq_true rfl, Nat.le_of_ble_eq_true rfl⟩) hK hP [] rfl rfl hl.1 rfl (Nat.le_of_ble_eq_true rfl) dX5_ifGap_2 ⟨Nat.le_of_ble_eq_true rfl, Nat.le_of_ble_eq_true rfl⟩ (fun r1 er1 => ?_)
  have er1 : r1 = if (¬ (nI i) < 0 ∧ ¬ 7 < (nI i)) then 1 else 0 := er1
  refine wl_b_ne (tgt := 12) hx hb (¬ (nI i) < 0 ∧ ¬ 7 < (nI i)) er1 dX5_ifGap_5 (by decide) (fun c2 => ?_) (fun c2 => absurd (wl_rng3 (a := 0) (b := 7) rfl rfl (by omega) (by omega) (by decide)) c2)
  refine lv_iload_n hx hb dX5_ifGap_12 rfl (lv_at hl 2 rfl) ?_
  refine lv_iconst (v := 0) hx hb dX5_ifGap_13 (by decide) ?_
  refine lv_iconst (v := 1) hx hb dX5_ifGap_14 (by decide) ?_
  refine wl_pS (As := [.int y, .int 0, .int 1]) (rest := [.ref (a 0)]) ⟨hx, hb, hml, hown, hts⟩ (m_X5_in l D cy y 0 1 ) (va_cwS 3 hts gX5_ifGap_X5_in rfl rfl rfl (by decide +kernel) ⟨Nat.le_of_ble_eq_true rfl, Nat.le_of_ble_eq_true rfl⟩) hK hP [] rfl rfl hl.1 rfl (Nat.le_of_ble_eq_true rfl) dX5_ifGap_15 ⟨Nat.le_of_ble_eq_true rfl, Nat.le_of_ble_eq_true rfl⟩ (fun r3 er3 => ?_)
  have er3 : r3 = if (¬ y < 0 ∧ ¬ 1 < y) then 1 else 0 := er3
  refine wl_b_eq (tgt := 25) hx hb (¬ y < 0 ∧ ¬ 1 < y) er3 dX5_ifGap_18 (by decide) (fun c4 => ?_) (fun c4 => absurd c4 hx2)
  refine lv_iconst (v := 2) hx hb dX5_ifGap_25 (by decide) ?_
  refine wl_iV (As := [.int 2]) (rest := []) (bsC := [moW cy a u]) (bsR := []) ⟨hx, hb, hml, hown, hts⟩ (m_X5_refused l D cy a u 2 s.heap.size (by omega)) (cwV 1 hts gX5_ifGap_X5_refused rfl rfl rfl (by decide +kernel) ⟨Nat.le_of_ble_eq_true rfl, Nat.le_of_ble_eq_true rfl⟩) wl_xT (fun _ _ _ => trivial) hK hP hD hS hA rfl rfl rfl rfl rfl hl.1 rfl (Nat.le_of_ble_eq_true rfl) dX5_ifGap_26 ⟨Nat.le_of_ble_eq_true rfl, Nat.le_of_ble_eq_true rfl⟩ (fun r5 bs6 H locs e7 _ _ hP hD hS => ?_)
  obtain ⟨er5, e7⟩ : r5 = (if (0 < 2) then 1 else 0) ∧ bs6 = [moW cy a (su u 6 2 (nI 2))] := e7
  subst e7
  have hP : va_P D vwCl ([moW cy a (su u 6 2 (nI 2))] : List va_W).flatten H := hP
  have hD : va_D A ([moW cy a (su u 6 2 (nI 2))] : List va_W).flatten := hD
  refine wl_b_eq (tgt := 34) hx hb (0 < 2) er5 dX5_ifGap_29 (by decide) (fun c8 => absurd (by decide) c8) (fun c8 => ?_)
  refine lv_iconst (v := 0) hx hb dX5_ifGap_32 (by decide) ?_
  exact wl_Ri (bs := [moW cy a (su u 6 2 (nI 2))]) (r := 0) hx hb hr hlocks hAe hP hD hS (by exact ⟨rfl, rfl⟩) dX5_ifGap_33
set_option maxHeartbeats 4000000 in
set_option maxRecDepth 100000 in
theorem r_X5_wrong (l : Launch) (D : va_G) (cy : Nat → ClassId) (a : Nat → Nat) (u : Nat → Nat → Int32) (k : Nat) (sz : Nat) (hk : k ≤ 4095) (ht : u 6 3 = -1) : Met l yX5_wrong wsX5_wrong ({ frames := 6, cells := 0, slots := 0, locals := 135 } : Room) (wl_ic D cy (fun _ => True) [moW cy a u] sz [.ref (a 0), .int (nI k)]) (va_Qi (fun (r : Int32) (bs : List va_W) => r = q_wv (su u 6 2 (nI 0)) (nI k) ∧ bs = [moW cy a (su u 6 2 (nI 0))]) (wl_ib D [moW cy a u] sz) (va_A ([moW cy a u] : List va_W).flatten sz)) 0 0 (va_A ([moW cy a u] : List va_W).flatten sz) := by
  refine wl_ofI (cc := cX5_wrong) (maxL := 2) (ret := (some .int)) (by decide) rfl (Nat.le_of_ble_eq_true rfl) ?_
  intro p e s m below meth c ls A hx hb hr hts hown hlocks hml hnm hsz hAe hP hK hD hX hA hS hl
  have hl : lv_has ls 2 [(0, .ref (a 0)), (1, .int (nI k))] := hl
  refine lv_aload_n hx hb dX5_wrong_0 rfl (lv_at hl 0 rfl) ?_
  refine lv_iload_n hx hb dX5_wrong_1 rfl (lv_at hl 1 rfl) ?_
  refine lv_iconst (v := 0) hx hb dX5_wrong_2 (by decide) ?_
  refine lv_sipush (v := 4095) hx hb dX5_wrong_3 (by decide) ?_
  refine wl_pS (As := [.int (nI k), .int 0, .int 4095]) (rest := [.ref (a 0)]) ⟨hx, hb, hml, hown, hts⟩ (m_X5_in l D cy (nI k) 0 4095 ) (va_cwS 3 hts gX5_wrong_X5_in rfl rfl rfl (by decide +kernel) ⟨Nat.le_of_ble_eq_true rfl, Nat.le_of_ble_eq_true rfl⟩) hK hP [] rfl rfl hl.1 rfl (Nat.le_of_ble_eq_true rfl) dX5_wrong_6 ⟨Nat.le_of_ble_eq_true rfl, Nat.le_of_ble_eq_true rfl⟩ (fun r1 er1 => ?_)
  have er1 : r1 = if (¬ (nI k) < 0 ∧ ¬ 4095 < (nI k)) then 1 else 0 := er1
  refine wl_b_eq (tgt := 16) hx hb (¬ (nI k) < 0 ∧ ¬ 4095 < (nI k)) er1 dX5_wrong_9 (by decide) (fun c2 => absurd (wl_rng3 (a := 0) (b := 4095) rfl rfl (by omega) (by omega) (by decide)) c2) (fun c2 => ?_)
  refine lv_iconst (v := 0) hx hb dX5_wrong_12 (by decide) ?_
  refine lv_goto (tgt := 17) hx hb dX5_wrong_13 (by decide) ?_
  refine wl_iV (As := [.int 0]) (rest := []) (bsC := [moW cy a u]) (bsR := []) ⟨hx, hb, hml, hown, hts⟩ (m_X5_refused l D cy a u 0 s.heap.size (by omega)) (cwV 1 hts gX5_wrong_X5_refused rfl rfl rfl (by decide +kernel) ⟨Nat.le_of_ble_eq_true rfl, Nat.le_of_ble_eq_true rfl⟩) wl_xT (fun _ _ _ => trivial) hK hP hD hS hA rfl rfl rfl rfl rfl hl.1 rfl (Nat.le_of_ble_eq_true rfl) dX5_wrong_17 ⟨Nat.le_of_ble_eq_true rfl, Nat.le_of_ble_eq_true rfl⟩ (fun r3 bs4 H locs e5 _ _ hP hD hS => ?_)
  obtain ⟨er3, e5⟩ : r3 = (if (0 < 0) then 1 else 0) ∧ bs4 = [moW cy a (su u 6 2 (nI 0))] := e5
  subst e5
  have hP : va_P D vwCl ([moW cy a (su u 6 2 (nI 0))] : List va_W).flatten H := hP
  have hD : va_D A ([moW cy a (su u 6 2 (nI 0))] : List va_W).flatten := hD
  refine wl_b_eq (tgt := 27) hx hb (0 < 0) er3 dX5_wrong_20 (by decide) (fun c6 => ?_) (fun c6 => absurd c6 (by decide))
  refine lv_aload_n hx hb dX5_wrong_27 rfl (lv_at hl 0 rfl) ?_
  refine lv_iload_n hx hb dX5_wrong_28 rfl (lv_at hl 1 rfl) ?_
  refine wl_iV (As := [.int (nI k)]) (rest := []) (bsC := [moW cy a (su u 6 2 (nI 0))]) (bsR := []) ⟨hx, hb, hml, hown, hts⟩ (m_X5_wrongOnes l D cy a (su u 6 2 (nI 0)) (nI k) H.size ht (wl_nm1 hk (by decide))) (cwV 1 hts gX5_wrong_X5_wrongOnes rfl rfl rfl (by decide +kernel) ⟨Nat.le_of_ble_eq_true rfl, Nat.le_of_ble_eq_true rfl⟩) wl_xT (fun _ _ _ => trivial) hK hP hD hS hA rfl rfl rfl rfl rfl hl.1 rfl (Nat.le_of_ble_eq_true rfl) dX5_wrong_29 ⟨Nat.le_of_ble_eq_true rfl, Nat.le_of_ble_eq_true rfl⟩ (fun r7 bs8 H locs e9 _ _ hP hD hS => ?_)
  obtain ⟨er7, e9⟩ : r7 = q_wv (su u 6 2 (nI 0)) (nI k) ∧ bs8 = [moW cy a (su u 6 2 (nI 0))] := e9
  subst e9
  subst er7
  have hP : va_P D vwCl ([moW cy a (su u 6 2 (nI 0))] : List va_W).flatten H := hP
  have hD : va_D A ([moW cy a (su u 6 2 (nI 0))] : List va_W).flatten := hD
  exact wl_Ri (bs := [moW cy a (su u 6 2 (nI 0))]) (r := (q_wv (su u 6 2 (nI 0)) (nI k))) hx hb hr hlocks hAe hP hD hS (by exact ⟨rfl, rfl⟩) dX5_wrong_32
set_option maxHeartbeats 4000000 in
set_option maxRecDepth 100000 in
theorem r_X5_wrong1 (l : Launch) (D : va_G) (cy : Nat → ClassId) (a : Nat → Nat) (u : Nat → Nat → Int32) (y : Int32) (sz : Nat) (hx2 : ¬ (¬ y < 0 ∧ ¬ 4095 < y)) : Met l yX5_wrong wsX5_wrong ({ frames := 1, cells := 0, slots := 0, locals := 22 } : Room) (wl_ic D cy (fun _ => True) [moW cy a u] sz [.ref (a 0), .int y]) (va_Qi (fun (r : Int32) (bs : List va_W) => r = 0 ∧ bs = [moW cy a (su u 6 2 (nI 1))]) (wl_ib D [moW cy a u] sz) (va_A ([moW cy a u] : List va_W).flatten sz)) 0 0 (va_A ([moW cy a u] : List va_W).flatten sz) := by
  refine wl_ofI (cc := cX5_wrong) (maxL := 2) (ret := (some .int)) (by decide) rfl (Nat.le_of_ble_eq_true rfl) ?_
  intro p e s m below meth c ls A hx hb hr hts hown hlocks hml hnm hsz hAe hP hK hD hX hA hS hl
  have hl : lv_has ls 2 [(0, .ref (a 0)), (1, .int y)] := hl
  refine lv_aload_n hx hb dX5_wrong_0 rfl (lv_at hl 0 rfl) ?_
  refine lv_iload_n hx hb dX5_wrong_1 rfl (lv_at hl 1 rfl) ?_
  refine lv_iconst (v := 0) hx hb dX5_wrong_2 (by decide) ?_
  refine lv_sipush (v := 4095) hx hb dX5_wrong_3 (by decide) ?_
  refine wl_pS (As := [.int y, .int 0, .int 4095]) (rest := [.ref (a 0)]) ⟨hx, hb, hml, hown, hts⟩ (m_X5_in l D cy y 0 4095 ) (va_cwS 3 hts gX5_wrong_X5_in rfl rfl rfl (by decide +kernel) ⟨Nat.le_of_ble_eq_true rfl, Nat.le_of_ble_eq_true rfl⟩) hK hP [] rfl rfl hl.1 rfl (Nat.le_of_ble_eq_true rfl) dX5_wrong_6 ⟨Nat.le_of_ble_eq_true rfl, Nat.le_of_ble_eq_true rfl⟩ (fun r1 er1 => ?_)
  have er1 : r1 = if (¬ y < 0 ∧ ¬ 4095 < y) then 1 else 0 := er1
  refine wl_b_eq (tgt := 16) hx hb (¬ y < 0 ∧ ¬ 4095 < y) er1 dX5_wrong_9 (by decide) (fun c2 => ?_) (fun c2 => absurd c2 hx2)
  refine lv_iconst (v := 1) hx hb dX5_wrong_16 (by decide) ?_
  refine wl_iV (As := [.int 1]) (rest := []) (bsC := [moW cy a u]) (bsR := []) ⟨hx, hb, hml, hown, hts⟩ (m_X5_refused l D cy a u 1 s.heap.size (by omega)) (cwV 1 hts gX5_wrong_X5_refused rfl rfl rfl (by decide +kernel) ⟨Nat.le_of_ble_eq_true rfl, Nat.le_of_ble_eq_true rfl⟩) wl_xT (fun _ _ _ => trivial) hK hP hD hS hA rfl rfl rfl rfl rfl hl.1 rfl (Nat.le_of_ble_eq_true rfl) dX5_wrong_17 ⟨Nat.le_of_ble_eq_true rfl, Nat.le_of_ble_eq_true rfl⟩ (fun r3 bs4 H locs e5 _ _ hP hD hS => ?_)
  obtain ⟨er3, e5⟩ : r3 = (if (0 < 1) then 1 else 0) ∧ bs4 = [moW cy a (su u 6 2 (nI 1))] := e5
  subst e5
  have hP : va_P D vwCl ([moW cy a (su u 6 2 (nI 1))] : List va_W).flatten H := hP
  have hD : va_D A ([moW cy a (su u 6 2 (nI 1))] : List va_W).flatten := hD
  refine wl_b_eq (tgt := 27) hx hb (0 < 1) er3 dX5_wrong_20 (by decide) (fun c6 => absurd (by decide) c6) (fun c6 => ?_)
  refine lv_iconst (v := 0) hx hb dX5_wrong_23 (by decide) ?_
  refine lv_goto (tgt := 32) hx hb dX5_wrong_24 (by decide) ?_
  exact wl_Ri (bs := [moW cy a (su u 6 2 (nI 1))]) (r := 0) hx hb hr hlocks hAe hP hD hS (by exact ⟨rfl, rfl⟩) dX5_wrong_32
set_option maxHeartbeats 4000000 in
set_option maxRecDepth 100000 in
theorem r_X5_bears (l : Launch) (D : va_G) (cy : Nat → ClassId) (a : Nat → Nat) (u : Nat → Nat → Int32) (i : Nat) (sz : Nat) (hi : i < 8) (ht : u 6 3 = -1) : Met l yX5_bears wsX5_bears ({ frames := 7, cells := 0, slots := 0, locals := 159 } : Room) (wl_ic D cy (fun _ => True) [moW cy a u] sz [.ref (a 0), .int (nI i)]) (va_Qi (fun (r : Int32) (bs : List va_W) => r = q_fl (su u 6 2 (nI 0)) i 7 ∧ bs = [moW cy a (su u 6 2 (nI 0))]) (wl_ib D [moW cy a u] sz) (va_A ([moW cy a u] : List va_W).flatten sz)) 0 0 (va_A ([moW cy a u] : List va_W).flatten sz) := by
  refine wl_ofI (cc := cX5_bears) (maxL := 2) (ret := (some .int)) (by decide) rfl (Nat.le_of_ble_eq_true rfl) ?_
  intro p e s m below meth c ls A hx hb hr hts hown hlocks hml hnm hsz hAe hP hK hD hX hA hS hl
  have hl : lv_has ls 2 [(0, .ref (a 0)), (1, .int (nI i))] := hl
  refine lv_aload_n hx hb dX5_bears_0 rfl (lv_at hl 0 rfl) ?_
  refine lv_iload_n hx hb dX5_bears_1 rfl (lv_at hl 1 rfl) ?_
  refine wl_pS (As := [.int (nI i)]) (rest := [.ref (a 0)]) ⟨hx, hb, hml, hown, hts⟩ (m_X5_isLamp l D cy (nI i) ) (va_cwS 1 hts gX5_bears_X5_isLamp rfl rfl rfl (by decide +kernel) ⟨Nat.le_of_ble_eq_true rfl, Nat.le_of_ble_eq_true rfl⟩) hK hP [] rfl rfl hl.1 rfl (Nat.le_of_ble_eq_true rfl) dX5_bears_2 ⟨Nat.le_of_ble_eq_true rfl, Nat.le_of_ble_eq_true rfl⟩ (fun r1 er1 => ?_)
  have er1 : r1 = if (¬ (nI i) < 0 ∧ ¬ 7 < (nI i)) then 1 else 0 := er1
  refine wl_b_eq (tgt := 12) hx hb (¬ (nI i) < 0 ∧ ¬ 7 < (nI i)) er1 dX5_bears_5 (by decide) (fun c2 => absurd (wl_rng3 (a := 0) (b := 7) rfl rfl (by omega) (by omega) (by decide)) c2) (fun c2 => ?_)
  refine lv_iconst (v := 0) hx hb dX5_bears_8 (by decide) ?_
  refine lv_goto (tgt := 13) hx hb dX5_bears_9 (by decide) ?_
  refine wl_iV (As := [.int 0]) (rest := []) (bsC := [moW cy a u]) (bsR := []) ⟨hx, hb, hml, hown, hts⟩ (m_X5_refused l D cy a u 0 s.heap.size (by omega)) (cwV 1 hts gX5_bears_X5_refused rfl rfl rfl (by decide +kernel) ⟨Nat.le_of_ble_eq_true rfl, Nat.le_of_ble_eq_true rfl⟩) wl_xT (fun _ _ _ => trivial) hK hP hD hS hA rfl rfl rfl rfl rfl hl.1 rfl (Nat.le_of_ble_eq_true rfl) dX5_bears_13 ⟨Nat.le_of_ble_eq_true rfl, Nat.le_of_ble_eq_true rfl⟩ (fun r3 bs4 H locs e5 _ _ hP hD hS => ?_)
  obtain ⟨er3, e5⟩ : r3 = (if (0 < 0) then 1 else 0) ∧ bs4 = [moW cy a (su u 6 2 (nI 0))] := e5
  subst e5
  have hP : va_P D vwCl ([moW cy a (su u 6 2 (nI 0))] : List va_W).flatten H := hP
  have hD : va_D A ([moW cy a (su u 6 2 (nI 0))] : List va_W).flatten := hD
  refine wl_b_eq (tgt := 23) hx hb (0 < 0) er3 dX5_bears_16 (by decide) (fun c6 => ?_) (fun c6 => absurd c6 (by decide))
  refine lv_aload_n hx hb dX5_bears_23 rfl (lv_at hl 0 rfl) ?_
  refine lv_iload_n hx hb dX5_bears_24 rfl (lv_at hl 1 rfl) ?_
  refine wl_iV (As := [.int (nI i)]) (rest := []) (bsC := [moW cy a (su u 6 2 (nI 0))]) (bsR := []) ⟨hx, hb, hml, hown, hts⟩ (m_X5_greatestLoss l D cy a (su u 6 2 (nI 0)) i H.size ht (by omega)) (cwV 1 hts gX5_bears_X5_greatestLoss rfl rfl rfl (by decide +kernel) ⟨Nat.le_of_ble_eq_true rfl, Nat.le_of_ble_eq_true rfl⟩) wl_xT (fun _ _ _ => trivial) hK hP hD hS hA rfl rfl rfl rfl rfl hl.1 rfl (Nat.le_of_ble_eq_true rfl) dX5_bears_25 ⟨Nat.le_of_ble_eq_true rfl, Nat.le_of_ble_eq_true rfl⟩ (fun r7 bs8 H locs e9 _ _ hP hD hS => ?_)
  obtain ⟨er7, e9⟩ : r7 = q_fl (su u 6 2 (nI 0)) i 7 ∧ bs8 = [moW cy a (su u 6 2 (nI 0))] := e9
  subst e9
  subst er7
  have hP : va_P D vwCl ([moW cy a (su u 6 2 (nI 0))] : List va_W).flatten H := hP
  have hD : va_D A ([moW cy a (su u 6 2 (nI 0))] : List va_W).flatten := hD
  exact wl_Ri (bs := [moW cy a (su u 6 2 (nI 0))]) (r := (q_fl (su u 6 2 (nI 0)) i 7)) hx hb hr hlocks hAe hP hD hS (by exact ⟨rfl, rfl⟩) dX5_bears_28
set_option maxHeartbeats 4000000 in
set_option maxRecDepth 100000 in
theorem r_X5_bears1 (l : Launch) (D : va_G) (cy : Nat → ClassId) (a : Nat → Nat) (u : Nat → Nat → Int32) (y : Int32) (sz : Nat) (hx2 : ¬ (¬ y < 0 ∧ ¬ 7 < y)) : Met l yX5_bears wsX5_bears ({ frames := 2, cells := 0, slots := 0, locals := 42 } : Room) (wl_ic D cy (fun _ => True) [moW cy a u] sz [.ref (a 0), .int y]) (va_Qi (fun (r : Int32) (bs : List va_W) => r = 0 ∧ bs = [moW cy a (su u 6 2 (nI 1))]) (wl_ib D [moW cy a u] sz) (va_A ([moW cy a u] : List va_W).flatten sz)) 0 0 (va_A ([moW cy a u] : List va_W).flatten sz) := by
  refine wl_ofI (cc := cX5_bears) (maxL := 2) (ret := (some .int)) (by decide) rfl (Nat.le_of_ble_eq_true rfl) ?_
  intro p e s m below meth c ls A hx hb hr hts hown hlocks hml hnm hsz hAe hP hK hD hX hA hS hl
  have hl : lv_has ls 2 [(0, .ref (a 0)), (1, .int y)] := hl
  refine lv_aload_n hx hb dX5_bears_0 rfl (lv_at hl 0 rfl) ?_
  refine lv_iload_n hx hb dX5_bears_1 rfl (lv_at hl 1 rfl) ?_
  refine wl_pS (As := [.int y]) (rest := [.ref (a 0)]) ⟨hx, hb, hml, hown, hts⟩ (m_X5_isLamp l D cy y ) (va_cwS 1 hts gX5_bears_X5_isLamp rfl rfl rfl (by decide +kernel) ⟨Nat.le_of_ble_eq_true rfl, Nat.le_of_ble_eq_true rfl⟩) hK hP [] rfl rfl hl.1 rfl (Nat.le_of_ble_eq_true rfl) dX5_bears_2 ⟨Nat.le_of_ble_eq_true rfl, Nat.le_of_ble_eq_true rfl⟩ (fun r1 er1 => ?_)
  have er1 : r1 = if (¬ y < 0 ∧ ¬ 7 < y) then 1 else 0 := er1
  refine wl_b_eq (tgt := 12) hx hb (¬ y < 0 ∧ ¬ 7 < y) er1 dX5_bears_5 (by decide) (fun c2 => ?_) (fun c2 => absurd c2 hx2)
  refine lv_iconst (v := 1) hx hb dX5_bears_12 (by decide) ?_
  refine wl_iV (As := [.int 1]) (rest := []) (bsC := [moW cy a u]) (bsR := []) ⟨hx, hb, hml, hown, hts⟩ (m_X5_refused l D cy a u 1 s.heap.size (by omega)) (cwV 1 hts gX5_bears_X5_refused rfl rfl rfl (by decide +kernel) ⟨Nat.le_of_ble_eq_true rfl, Nat.le_of_ble_eq_true rfl⟩) wl_xT (fun _ _ _ => trivial) hK hP hD hS hA rfl rfl rfl rfl rfl hl.1 rfl (Nat.le_of_ble_eq_true rfl) dX5_bears_13 ⟨Nat.le_of_ble_eq_true rfl, Nat.le_of_ble_eq_true rfl⟩ (fun r3 bs4 H locs e5 _ _ hP hD hS => ?_)
  obtain ⟨er3, e5⟩ : r3 = (if (0 < 1) then 1 else 0) ∧ bs4 = [moW cy a (su u 6 2 (nI 1))] := e5
  subst e5
  have hP : va_P D vwCl ([moW cy a (su u 6 2 (nI 1))] : List va_W).flatten H := hP
  have hD : va_D A ([moW cy a (su u 6 2 (nI 1))] : List va_W).flatten := hD
  refine wl_b_eq (tgt := 23) hx hb (0 < 1) er3 dX5_bears_16 (by decide) (fun c6 => absurd (by decide) c6) (fun c6 => ?_)
  refine lv_iconst (v := 0) hx hb dX5_bears_19 (by decide) ?_
  refine lv_goto (tgt := 28) hx hb dX5_bears_20 (by decide) ?_
  exact wl_Ri (bs := [moW cy a (su u 6 2 (nI 1))]) (r := 0) hx hb hr hlocks hAe hP hD hS (by exact ⟨rfl, rfl⟩) dX5_bears_28
set_option maxHeartbeats 4000000 in
set_option maxRecDepth 100000 in
theorem r_X5_wordsTo (l : Launch) (D : va_G) (cy : Nat → ClassId) (a : Nat → Nat) (u : Nat → Nat → Int32) (i : Nat) (sz : Nat) (hi : i < 8) : Met l yX5_wordsTo wsX5_wordsTo ({ frames := 3, cells := 0, slots := 0, locals := 65 } : Room) (wl_ic D cy (fun _ => True) [moW cy a u] sz [.ref (a 0), .int (nI i)]) (va_Qi (fun (r : Int32) (bs : List va_W) => r = q_wu (zv u) i ∧ bs = [moW cy a (su u 6 2 (nI 0))]) (wl_ib D [moW cy a u] sz) (va_A ([moW cy a u] : List va_W).flatten sz)) 0 0 (va_A ([moW cy a u] : List va_W).flatten sz) := by
  refine wl_ofI (cc := cX5_wordsTo) (maxL := 2) (ret := (some .int)) (by decide) rfl (Nat.le_of_ble_eq_true rfl) ?_
  intro p e s m below meth c ls A hx hb hr hts hown hlocks hml hnm hsz hAe hP hK hD hX hA hS hl
  have hl : lv_has ls 2 [(0, .ref (a 0)), (1, .int (nI i))] := hl
  refine lv_aload_n hx hb dX5_wordsTo_0 rfl (lv_at hl 0 rfl) ?_
  refine lv_iload_n hx hb dX5_wordsTo_1 rfl (lv_at hl 1 rfl) ?_
  refine wl_pS (As := [.int (nI i)]) (rest := [.ref (a 0)]) ⟨hx, hb, hml, hown, hts⟩ (m_X5_isLamp l D cy (nI i) ) (va_cwS 1 hts gX5_wordsTo_X5_isLamp rfl rfl rfl (by decide +kernel) ⟨Nat.le_of_ble_eq_true rfl, Nat.le_of_ble_eq_true rfl⟩) hK hP [] rfl rfl hl.1 rfl (Nat.le_of_ble_eq_true rfl) dX5_wordsTo_2 ⟨Nat.le_of_ble_eq_true rfl, Nat.le_of_ble_eq_true rfl⟩ (fun r1 er1 => ?_)
  have er1 : r1 = if (¬ (nI i) < 0 ∧ ¬ 7 < (nI i)) then 1 else 0 := er1
  refine wl_b_eq (tgt := 12) hx hb (¬ (nI i) < 0 ∧ ¬ 7 < (nI i)) er1 dX5_wordsTo_5 (by decide) (fun c2 => absurd (wl_rng3 (a := 0) (b := 7) rfl rfl (by omega) (by omega) (by decide)) c2) (fun c2 => ?_)
  refine lv_iconst (v := 0) hx hb dX5_wordsTo_8 (by decide) ?_
  refine lv_goto (tgt := 13) hx hb dX5_wordsTo_9 (by decide) ?_
  refine wl_iV (As := [.int 0]) (rest := []) (bsC := [moW cy a u]) (bsR := []) ⟨hx, hb, hml, hown, hts⟩ (m_X5_refused l D cy a u 0 s.heap.size (by omega)) (cwV 1 hts gX5_wordsTo_X5_refused rfl rfl rfl (by decide +kernel) ⟨Nat.le_of_ble_eq_true rfl, Nat.le_of_ble_eq_true rfl⟩) wl_xT (fun _ _ _ => trivial) hK hP hD hS hA rfl rfl rfl rfl rfl hl.1 rfl (Nat.le_of_ble_eq_true rfl) dX5_wordsTo_13 ⟨Nat.le_of_ble_eq_true rfl, Nat.le_of_ble_eq_true rfl⟩ (fun r3 bs4 H locs e5 _ _ hP hD hS => ?_)
  obtain ⟨er3, e5⟩ : r3 = (if (0 < 0) then 1 else 0) ∧ bs4 = [moW cy a (su u 6 2 (nI 0))] := e5
  subst e5
  have hP : va_P D vwCl ([moW cy a (su u 6 2 (nI 0))] : List va_W).flatten H := hP
  have hD : va_D A ([moW cy a (su u 6 2 (nI 0))] : List va_W).flatten := hD
  refine wl_b_eq (tgt := 23) hx hb (0 < 0) er3 dX5_wordsTo_16 (by decide) (fun c6 => ?_) (fun c6 => absurd c6 (by decide))
  refine lv_aload_n hx hb dX5_wordsTo_23 rfl (lv_at hl 0 rfl) ?_
  refine lv_iload_n hx hb dX5_wordsTo_24 rfl (lv_at hl 1 rfl) ?_
  refine wl_pV (As := [.int (nI i)]) (rest := []) ⟨hx, hb, hml, hown, hts⟩ (m_X5_fewestWords l D cy a (su u 6 2 (nI 0)) i (by omega)) (cwV 1 hts gX5_wordsTo_X5_fewestWords rfl rfl rfl (by decide +kernel) ⟨Nat.le_of_ble_eq_true rfl, Nat.le_of_ble_eq_true rfl⟩) hK hP [0] rfl rfl rfl rfl rfl rfl hl.1 rfl (Nat.le_of_ble_eq_true rfl) dX5_wordsTo_25 ⟨Nat.le_of_ble_eq_true rfl, Nat.le_of_ble_eq_true rfl⟩ (fun r7 er7 => ?_)
  have er7 : r7 = q_wu (zv (su u 6 2 (nI 0))) i := er7
  subst er7
  exact wl_Ri (bs := [moW cy a (su u 6 2 (nI 0))]) (r := (q_wu (zv (su u 6 2 (nI 0))) i)) hx hb hr hlocks hAe hP hD hS (by exact ⟨rfl, rfl⟩) dX5_wordsTo_28
set_option maxHeartbeats 4000000 in
set_option maxRecDepth 100000 in
theorem r_X5_wordsTo1 (l : Launch) (D : va_G) (cy : Nat → ClassId) (a : Nat → Nat) (u : Nat → Nat → Int32) (y : Int32) (sz : Nat) (hx2 : ¬ (¬ y < 0 ∧ ¬ 7 < y)) : Met l yX5_wordsTo wsX5_wordsTo ({ frames := 2, cells := 0, slots := 0, locals := 42 } : Room) (wl_ic D cy (fun _ => True) [moW cy a u] sz [.ref (a 0), .int y]) (va_Qi (fun (r : Int32) (bs : List va_W) => r = 0 ∧ bs = [moW cy a (su u 6 2 (nI 1))]) (wl_ib D [moW cy a u] sz) (va_A ([moW cy a u] : List va_W).flatten sz)) 0 0 (va_A ([moW cy a u] : List va_W).flatten sz) := by
  refine wl_ofI (cc := cX5_wordsTo) (maxL := 2) (ret := (some .int)) (by decide) rfl (Nat.le_of_ble_eq_true rfl) ?_
  intro p e s m below meth c ls A hx hb hr hts hown hlocks hml hnm hsz hAe hP hK hD hX hA hS hl
  have hl : lv_has ls 2 [(0, .ref (a 0)), (1, .int y)] := hl
  refine lv_aload_n hx hb dX5_wordsTo_0 rfl (lv_at hl 0 rfl) ?_
  refine lv_iload_n hx hb dX5_wordsTo_1 rfl (lv_at hl 1 rfl) ?_
  refine wl_pS (As := [.int y]) (rest := [.ref (a 0)]) ⟨hx, hb, hml, hown, hts⟩ (m_X5_isLamp l D cy y ) (va_cwS 1 hts gX5_wordsTo_X5_isLamp rfl rfl rfl (by decide +kernel) ⟨Nat.le_of_ble_eq_true rfl, Nat.le_of_ble_eq_true rfl⟩) hK hP [] rfl rfl hl.1 rfl (Nat.le_of_ble_eq_true rfl) dX5_wordsTo_2 ⟨Nat.le_of_ble_eq_true rfl, Nat.le_of_ble_eq_true rfl⟩ (fun r1 er1 => ?_)
  have er1 : r1 = if (¬ y < 0 ∧ ¬ 7 < y) then 1 else 0 := er1
  refine wl_b_eq (tgt := 12) hx hb (¬ y < 0 ∧ ¬ 7 < y) er1 dX5_wordsTo_5 (by decide) (fun c2 => ?_) (fun c2 => absurd c2 hx2)
  refine lv_iconst (v := 1) hx hb dX5_wordsTo_12 (by decide) ?_
  refine wl_iV (As := [.int 1]) (rest := []) (bsC := [moW cy a u]) (bsR := []) ⟨hx, hb, hml, hown, hts⟩ (m_X5_refused l D cy a u 1 s.heap.size (by omega)) (cwV 1 hts gX5_wordsTo_X5_refused rfl rfl rfl (by decide +kernel) ⟨Nat.le_of_ble_eq_true rfl, Nat.le_of_ble_eq_true rfl⟩) wl_xT (fun _ _ _ => trivial) hK hP hD hS hA rfl rfl rfl rfl rfl hl.1 rfl (Nat.le_of_ble_eq_true rfl) dX5_wordsTo_13 ⟨Nat.le_of_ble_eq_true rfl, Nat.le_of_ble_eq_true rfl⟩ (fun r3 bs4 H locs e5 _ _ hP hD hS => ?_)
  obtain ⟨er3, e5⟩ : r3 = (if (0 < 1) then 1 else 0) ∧ bs4 = [moW cy a (su u 6 2 (nI 1))] := e5
  subst e5
  have hP : va_P D vwCl ([moW cy a (su u 6 2 (nI 1))] : List va_W).flatten H := hP
  have hD : va_D A ([moW cy a (su u 6 2 (nI 1))] : List va_W).flatten := hD
  refine wl_b_eq (tgt := 23) hx hb (0 < 1) er3 dX5_wordsTo_16 (by decide) (fun c6 => absurd (by decide) c6) (fun c6 => ?_)
  refine lv_iconst (v := 0) hx hb dX5_wordsTo_19 (by decide) ?_
  refine lv_goto (tgt := 28) hx hb dX5_wordsTo_20 (by decide) ?_
  exact wl_Ri (bs := [moW cy a (su u 6 2 (nI 1))]) (r := 0) hx hb hr hlocks hAe hP hD hS (by exact ⟨rfl, rfl⟩) dX5_wordsTo_28
