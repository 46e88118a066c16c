/-! WireLampsModel: a text, sent -/
set_option maxHeartbeats 4000000 in
set_option maxRecDepth 100000 in
theorem r_X5_firstError (l : Launch) (D : va_G) (cy : Nat → ClassId) (a : Nat → Nat) (u : Nat → Nat → Int32) (k : Nat) (sz : Nat) (hkk : u 6 1 = nI k) (hk2 : k ≤ 60) : Met l yX5_firstError wsX5_firstError ({ frames := 4, cells := 0, slots := 0, locals := 86 } : Room) (wl_ic D cy (fun _ => True) [moW cy a u] sz [.ref (a 0)]) (va_Qi (fun (r : Int32) (bs : List va_W) => ∃ (Z : Nat → Nat → Int32), r = nI (q_ep (tv u) k) ∧ bs = [moW cy a Z] ∧ q_RT (su u 6 2 0) k Z) (wl_ib D [moW cy a u] sz) (va_A ([moW cy a u] : List va_W).flatten sz)) 0 0 (va_A ([moW cy a u] : List va_W).flatten sz) := by
  refine wl_ofI (cc := cX5_firstError) (maxL := 1) (ret := (some .int)) (by decide) rfl (Nat.le_of_ble_eq_true rfl) ?_
  intro p e s m below meth c ls A hx hb hr hts hown hlocks hml hnm hsz hAe hP hK hD hX hA hS hl
  have hl : lv_has ls 1 [(0, .ref (a 0))] := hl
  have lkf113 := hts (.fieldLink RX5 113 "WireLampsModel" "length" "I") (by decide +kernel)
  have lkf116 := hts (.fieldLink RX5 116 "WireLampsModel" "spot" "I") (by decide +kernel)
  have lkf33 := hts (.fieldLink RX5 33 "WireLampsModel" "thrown" "I") (by decide +kernel)
  have in_X5 : ∀ w ∈ u_ws RX5 TX5 13, w ∈ wsX5_firstError := by decide +kernel
  refine lv_aload_n hx hb dX5_firstError_0 rfl (lv_at hl 0 rfl) ?_
  refine lv_iconst (v := 0) hx hb dX5_firstError_1 (by decide) ?_
  refine wl_putf (C := RX5) (T := TX5) (N := 13) (ci := 5) (v := .int 0) hx hb hts in_X5 tyX5 tyX5_ok nmX5 hown hK hP hD hS 0 0 rfl rfl rfl 7 (by decide) lkf33 rfl rfl rfl rfl (Nat.le_of_ble_eq_true rfl) dX5_firstError_2 (fun H locs hP hD hS => ?_)
  have hP : va_P D vwCl ([moW cy a (su u 6 2 0)] : List va_W).flatten H := hP
  have hD : va_D A ([moW cy a (su u 6 2 0)] : List va_W).flatten := hD
  refine lv_aload_n hx hb dX5_firstError_5 rfl (lv_at hl 0 rfl) ?_
  refine wl_iV (As := []) (rest := []) (bsC := [moW cy a (su u 6 2 0)]) (bsR := []) ⟨hx, hb, hml, hown, hts⟩ (m_X5_readText l D cy a (su u 6 2 0) k H.size hkk (by omega)) (cwV 0 hts gX5_firstError_X5_readText rfl rfl rfl (by decide +kernel) ⟨Nat.le_of_ble_eq_true rfl, Nat.le_of_ble_eq_true rfl⟩) wl_xT (fun _ _ _ => trivial) hK hP hD hS hA rfl rfl rfl rfl rfl hl.1 rfl (Nat.le_of_ble_eq_true rfl) dX5_firstError_6 ⟨Nat.le_of_ble_eq_true rfl, Nat.le_of_ble_eq_true rfl⟩ (fun r1 bs2 H locs e3 _ _ hP hD hS => ?_)
  obtain ⟨Z4, er1, e3, f5⟩ := e3
  have e3 : bs2 = [moW cy a Z4] := e3
  subst e3
  have er1 : r1 = (if (¬ q_wt (tv (su u 6 2 0)) k = 0) then 1 else 0) := er1
  have hP : va_P D vwCl ([moW cy a Z4] : List va_W).flatten H := hP
  have hD : va_D A ([moW cy a Z4] : List va_W).flatten := hD
  obtain ⟨Z, hZe⟩ : ∃ Z, Z = Z4 := ⟨_, rfl⟩
  subst hZe
  have hRT := f5
  obtain ⟨hr5, ⟨h60, h61, h62, h63⟩, h66, hrw⟩ := f5
  refine wl_b_eq (tgt := 19) hx hb (¬ q_wt (tv (su u 6 2 0)) k = 0) er1 dX5_firstError_9 (by decide) (fun hP9 => ?_) (fun hP9 => ?_)
  · refine lv_aload_n hx hb dX5_firstError_19 rfl (lv_at hl 0 rfl) ?_
    refine wl_getf (C := RX5) (T := TX5) (N := 13) (ci := 5) (v := .int (Z 6 6)) hx hb hts in_X5 hown hK hP 0 0 rfl rfl rfl 12 (by decide) lkf116 rfl rfl dX5_firstError_20 ?_
    refine wl_top (y := nI (q_ep (tv u) k)) h66 ?_
    exact wl_Ri (bs := [moW cy a Z]) (r := (nI (q_ep (tv u) k))) hx hb hr hlocks hAe hP hD hS (by exact ⟨Z, rfl, rfl, hRT⟩) dX5_firstError_23
  · refine lv_aload_n hx hb dX5_firstError_12 rfl (lv_at hl 0 rfl) ?_
    refine wl_getf (C := RX5) (T := TX5) (N := 13) (ci := 5) (v := .int (Z 6 1)) hx hb hts in_X5 hown hK hP 0 0 rfl rfl rfl 6 (by decide) lkf113 rfl rfl dX5_firstError_13 ?_
    refine wl_top (y := nI k) (h61.trans hkk) ?_
    refine lv_goto (tgt := 23) hx hb dX5_firstError_16 (by decide) ?_
    exact wl_Ri (bs := [moW cy a Z]) (r := (nI k)) hx hb hr hlocks hAe hP hD hS (by exact ⟨Z, (congrArg nI (q_ep_full hP9)).symm, rfl, hRT⟩) dX5_firstError_23
set_option maxHeartbeats 4000000 in
set_option maxRecDepth 100000 in
theorem r_X5_load1 (l : Launch) (D : va_G) (cy : Nat → ClassId) (a : Nat → Nat) (u : Nat → Nat → Int32) (k : Nat) (sz : Nat) (hkk : u 6 1 = nI k) (hk2 : k ≤ 60) (hw0 : q_wt (tv u) k = 0) : Met l yX5_load wsX5_load ({ frames := 4, cells := 0, slots := 0, locals := 86 } : Room) (wl_ic D cy (fun _ => True) [moW cy a u] sz [.ref (a 0)]) (va_Qi (fun (r : Int32) (bs : List va_W) => ∃ (Z : Nat → Nat → Int32), r = 0 ∧ bs = [moW cy a (su Z 6 2 (nI 1))] ∧ q_RT u k Z) (wl_ib D [moW cy a u] sz) (va_A ([moW cy a u] : List va_W).flatten sz)) 0 0 (va_A ([moW cy a u] : List va_W).flatten sz) := by
  refine wl_ofI (cc := cX5_load) (maxL := 2) (ret := (some .int)) (by decide) rfl (Nat.le_of_ble_eq_true rfl) ?_
  intro p e s m below meth c ls A hx hb hr hts hown hlocks hml hnm hsz hAe hP hK hD hX hA hS hl
  have hl : lv_has ls 2 [(0, .ref (a 0))] := hl
  refine lv_aload_n hx hb dX5_load_0 rfl (lv_at hl 0 rfl) ?_
  refine lv_aload_n hx hb dX5_load_1 rfl (lv_at hl 0 rfl) ?_
  refine wl_iV (As := []) (rest := [.ref (a 0)]) (bsC := [moW cy a u]) (bsR := []) ⟨hx, hb, hml, hown, hts⟩ (m_X5_readText l D cy a u k s.heap.size hkk (by omega)) (cwV 0 hts gX5_load_X5_readText rfl rfl rfl (by decide +kernel) ⟨Nat.le_of_ble_eq_true rfl, Nat.le_of_ble_eq_true rfl⟩) wl_xT (fun _ _ _ => trivial) hK hP hD hS hA rfl rfl rfl rfl rfl hl.1 rfl (Nat.le_of_ble_eq_true rfl) dX5_load_2 ⟨Nat.le_of_ble_eq_true rfl, Nat.le_of_ble_eq_true rfl⟩ (fun r1 bs2 H locs e3 _ _ hP hD hS => ?_)
  obtain ⟨Z4, er1, e3, f5⟩ := e3
  have e3 : bs2 = [moW cy a Z4] := e3
  subst e3
  have er1 : r1 = (if (¬ q_wt (tv u) k = 0) then 1 else 0) := er1
  have hP : va_P D vwCl ([moW cy a Z4] : List va_W).flatten H := hP
  have hD : va_D A ([moW cy a Z4] : List va_W).flatten := hD
  obtain ⟨Z, hZe⟩ : ∃ Z, Z = Z4 := ⟨_, rfl⟩
  subst hZe
  have hRT := f5
  obtain ⟨hr5, ⟨h60, h61, h62, h63⟩, h66, hrw⟩ := f5
  refine wl_b_eq (tgt := 12) hx hb (¬ q_wt (tv u) k = 0) er1 dX5_load_5 (by decide) (fun c6 => ?_) (fun c6 => absurd c6 (fun q => q hw0))
  refine lv_iconst (v := 1) hx hb dX5_load_12 (by decide) ?_
  refine wl_iV (As := [.int 1]) (rest := []) (bsC := [moW cy a Z]) (bsR := []) ⟨hx, hb, hml, hown, hts⟩ (m_X5_refused l D cy a Z 1 H.size (by omega)) (cwV 1 hts gX5_load_X5_refused rfl rfl rfl (by decide +kernel) ⟨Nat.le_of_ble_eq_true rfl, Nat.le_of_ble_eq_true rfl⟩) wl_xT (fun _ _ _ => trivial) hK hP hD hS hA rfl rfl rfl rfl rfl hl.1 rfl (Nat.le_of_ble_eq_true rfl) dX5_load_13 ⟨Nat.le_of_ble_eq_true rfl, Nat.le_of_ble_eq_true rfl⟩ (fun r7 bs8 H locs e9 _ _ hP hD hS => ?_)
  obtain ⟨er7, e9⟩ : r7 = (if (0 < 1) then 1 else 0) ∧ bs8 = [moW cy a (su Z 6 2 (nI 1))] := e9
  subst e9
  have hP : va_P D vwCl ([moW cy a (su Z 6 2 (nI 1))] : List va_W).flatten H := hP
  have hD : va_D A ([moW cy a (su Z 6 2 (nI 1))] : List va_W).flatten := hD
  refine wl_b_eq (tgt := 21) hx hb (0 < 1) er7 dX5_load_16 (by decide) (fun c10 => absurd (by decide) c10) (fun c10 => ?_)
  refine lv_iconst (v := 0) hx hb dX5_load_19 (by decide) ?_
  exact wl_Ri (bs := [moW cy a (su Z 6 2 (nI 1))]) (r := 0) hx hb hr hlocks hAe hP hD hS (by exact ⟨Z, rfl, rfl, hRT⟩) dX5_load_20
set_option maxHeartbeats 4000000 in
set_option maxRecDepth 100000 in
theorem r_X5_loadF (l : Launch) (D : va_G) (cy : Nat → ClassId) (a : Nat → Nat) (u : Nat → Nat → Int32) (k n b : Nat) (sz : Nat) (hkk : u 6 1 = nI k) (hk2 : k ≤ 60) (hn : u 0 49 = nI n) (hn2 : n ≤ 120) (hsv : u 6 0 = nI b) (hsv2 : b ≤ 6) (hw0 : ¬ q_wt (tv u) k = 0) (hf : ¬ n + 12 * q_wt (tv u) k ≤ 120) : Met l yX5_load wsX5_load ({ frames := 4, cells := 0, slots := 0, locals := 86 } : Room) (wl_ic D cy (fun _ => True) [moW cy a u] sz [.ref (a 0)]) (va_Qi (fun (r : Int32) (bs : List va_W) => ∃ (Z : Nat → Nat → Int32), r = -1 ∧ bs = [moW cy a (su (su (q_sv (su Z 6 2 (nI 0)) b) 6 1 0) 0 48 (zv (su (q_sv (su Z 6 2 (nI 0)) b) 6 1 0) 7 5 + 1))] ∧ q_RT u k Z) (wl_ib D [moW cy a u] sz) (va_A ([moW cy a u] : List va_W).flatten sz)) 0 0 (va_A ([moW cy a u] : List va_W).flatten sz) := by
  refine wl_ofI (cc := cX5_load) (maxL := 2) (ret := (some .int)) (by decide) rfl (Nat.le_of_ble_eq_true rfl) ?_
  intro p e s m below meth c ls A hx hb hr hts hown hlocks hml hnm hsz hAe hP hK hD hX hA hS hl
  have hl : lv_has ls 2 [(0, .ref (a 0))] := hl
  have lkf113 := hts (.fieldLink RX5 113 "WireLampsModel" "length" "I") (by decide +kernel)
  have lkf122 := hts (.fieldLink RX5 122 "WireLampsModel" "toldMany" "I") (by decide +kernel)
  have lkf7 := hts (.fieldLink RX5 7 "WireLampsModel" "z" "[I") (by decide +kernel)
  have in_X5 : ∀ w ∈ u_ws RX5 TX5 13, w ∈ wsX5_load := by decide +kernel
  refine lv_aload_n hx hb dX5_load_0 rfl (lv_at hl 0 rfl) ?_
  refine lv_aload_n hx hb dX5_load_1 rfl (lv_at hl 0 rfl) ?_
  refine wl_iV (As := []) (rest := [.ref (a 0)]) (bsC := [moW cy a u]) (bsR := []) ⟨hx, hb, hml, hown, hts⟩ (m_X5_readText l D cy a u k s.heap.size hkk (by omega)) (cwV 0 hts gX5_load_X5_readText rfl rfl rfl (by decide +kernel) ⟨Nat.le_of_ble_eq_true rfl, Nat.le_of_ble_eq_true rfl⟩) wl_xT (fun _ _ _ => trivial) hK hP hD hS hA rfl rfl rfl rfl rfl hl.1 rfl (Nat.le_of_ble_eq_true rfl) dX5_load_2 ⟨Nat.le_of_ble_eq_true rfl, Nat.le_of_ble_eq_true rfl⟩ (fun r1 bs2 H locs e3 _ _ hP hD hS => ?_)
  obtain ⟨Z4, er1, e3, f5⟩ := e3
  have e3 : bs2 = [moW cy a Z4] := e3
  subst e3
  have er1 : r1 = (if (¬ q_wt (tv u) k = 0) then 1 else 0) := er1
  have hP : va_P D vwCl ([moW cy a Z4] : List va_W).flatten H := hP
  have hD : va_D A ([moW cy a Z4] : List va_W).flatten := hD
  obtain ⟨Z, hZe⟩ : ∃ Z, Z = Z4 := ⟨_, rfl⟩
  subst hZe
  have hRT := f5
  obtain ⟨hr5, ⟨h60, h61, h62, h63⟩, h66, hrw⟩ := f5
  refine wl_b_eq (tgt := 12) hx hb (¬ q_wt (tv u) k = 0) er1 dX5_load_5 (by decide) (fun c6 => absurd hw0 c6) (fun c6 => ?_)
  refine lv_iconst (v := 0) hx hb dX5_load_8 (by decide) ?_
  refine lv_goto (tgt := 13) hx hb dX5_load_9 (by decide) ?_
  refine wl_iV (As := [.int 0]) (rest := []) (bsC := [moW cy a Z]) (bsR := []) ⟨hx, hb, hml, hown, hts⟩ (m_X5_refused l D cy a Z 0 H.size (by omega)) (cwV 1 hts gX5_load_X5_refused rfl rfl rfl (by decide +kernel) ⟨Nat.le_of_ble_eq_true rfl, Nat.le_of_ble_eq_true rfl⟩) wl_xT (fun _ _ _ => trivial) hK hP hD hS hA rfl rfl rfl rfl rfl hl.1 rfl (Nat.le_of_ble_eq_true rfl) dX5_load_13 ⟨Nat.le_of_ble_eq_true rfl, Nat.le_of_ble_eq_true rfl⟩ (fun r7 bs8 H locs e9 _ _ hP hD hS => ?_)
  obtain ⟨er7, e9⟩ : r7 = (if (0 < 0) then 1 else 0) ∧ bs8 = [moW cy a (su Z 6 2 (nI 0))] := e9
  subst e9
  have hP : va_P D vwCl ([moW cy a (su Z 6 2 (nI 0))] : List va_W).flatten H := hP
  have hD : va_D A ([moW cy a (su Z 6 2 (nI 0))] : List va_W).flatten := hD
  refine wl_b_eq (tgt := 21) hx hb (0 < 0) er7 dX5_load_16 (by decide) (fun c10 => ?_) (fun c10 => absurd c10 (by decide))
  have hw9 := hrw hw0
  have hw10 := hw9.2.1
  refine lv_aload_n hx hb dX5_load_21 rfl (lv_at hl 0 rfl) ?_
  refine wl_iVv (As := []) (rest := []) (bsC := [moW cy a (su Z 6 2 (nI 0))]) (bsR := []) ⟨hx, hb, hml, hown, hts⟩ (m_X5_saveState l D cy a (su Z 6 2 (nI 0)) b H.size (h60.trans hsv) (by omega)) (cwV 0 hts gX5_load_X5_saveState rfl rfl rfl (by decide +kernel) ⟨Nat.le_of_ble_eq_true rfl, Nat.le_of_ble_eq_true rfl⟩) wl_xT (fun _ _ _ => trivial) hK hP hD hS hA rfl rfl rfl rfl rfl hl.1 rfl (Nat.le_of_ble_eq_true rfl) dX5_load_22 ⟨Nat.le_of_ble_eq_true rfl, Nat.le_of_ble_eq_true rfl⟩ (fun bs11 H locs e12 _ _ hP hD hS => ?_)
  have e12 : bs11 = [moW cy a (q_sv (su Z 6 2 (nI 0)) b)] := e12
  subst e12
  have hP : va_P D vwCl ([moW cy a (q_sv (su Z 6 2 (nI 0)) b)] : List va_W).flatten H := hP
  have hD : va_D A ([moW cy a (q_sv (su Z 6 2 (nI 0)) b)] : List va_W).flatten := hD
  refine lv_aload_n hx hb dX5_load_25 rfl (lv_at hl 0 rfl) ?_
  refine lv_iconst (v := 0) hx hb dX5_load_26 (by decide) ?_
  refine wl_putf (C := RX5) (T := TX5) (N := 13) (ci := 5) (v := .int 0) hx hb hts in_X5 tyX5 tyX5_ok nmX5 hown hK hP hD hS 0 0 rfl rfl rfl 6 (by decide) lkf113 rfl rfl rfl rfl (Nat.le_of_ble_eq_true rfl) dX5_load_27 (fun H locs hP hD hS => ?_)
  have hP : va_P D vwCl ([moW cy a (su (q_sv (su Z 6 2 (nI 0)) b) 6 1 0)] : List va_W).flatten H := hP
  have hD : va_D A ([moW cy a (su (q_sv (su Z 6 2 (nI 0)) b) 6 1 0)] : List va_W).flatten := hD
  refine lv_aload_n hx hb dX5_load_30 rfl (lv_at hl 0 rfl) ?_
  refine wl_getf (C := RX5) (T := TX5) (N := 13) (ci := 5) (v := .ref (a 1)) hx hb hts in_X5 hown hK hP 0 0 rfl rfl rfl 0 (by decide) lkf7 rfl rfl dX5_load_31 ?_
  refine lv_bipush (v := 49) hx hb dX5_load_34 (by decide) ?_
  refine wl_iald hx hb hK hP 0 1 rfl rfl 49 (by omega) (Nat.le_of_ble_eq_true rfl) dX5_load_36 ?_
  refine wl_top (y := nI n) ((congrFun (hr5 0 (by omega)) 49).trans hn) ?_
  refine lv_bipush (v := 12) hx hb dX5_load_37 (by decide) ?_
  refine lv_aload_n hx hb dX5_load_39 rfl (lv_at hl 0 rfl) ?_
  refine wl_getf (C := RX5) (T := TX5) (N := 13) (ci := 5) (v := .int ((q_sv (su Z 6 2 (nI 0)) b) 6 4)) hx hb hts in_X5 hown hK hP 0 0 rfl rfl rfl 10 (by decide) lkf122 rfl rfl dX5_load_40 ?_
  refine wl_top (y := nI (q_wt (tv u) k)) hw9.1 ?_
  refine lv_imul hx hb dX5_load_43 ?_
  refine wl_top (y := nI (12 * (q_wt (tv u) k))) (pk_mul 12 (q_wt (tv u) k)) ?_
  refine lv_iadd hx hb dX5_load_44 ?_
  refine wl_top (y := nI (n + (12 * (q_wt (tv u) k)))) (nI_add n (12 * (q_wt (tv u) k))) ?_
  refine lv_bipush (v := 120) hx hb dX5_load_45 (by decide) ?_
  refine wl_icmp_le (tgt := 63) hx hb (n + (12 * (q_wt (tv u) k))) 120 dX5_load_47 (by decide) (by omega) (by omega) (fun c13 => absurd c13 hf) (fun c13 => ?_)
  refine lv_aload_n hx hb dX5_load_50 rfl (lv_at hl 0 rfl) ?_
  refine wl_getf (C := RX5) (T := TX5) (N := 13) (ci := 5) (v := .ref (a 1)) hx hb hts in_X5 hown hK hP 0 0 rfl rfl rfl 0 (by decide) lkf7 rfl rfl dX5_load_51 ?_
  refine lv_bipush (v := 48) hx hb dX5_load_54 (by decide) ?_
  refine lv_dup2_11 hx hb dX5_load_56 rfl rfl ?_
  refine wl_iald hx hb hK hP 0 1 rfl rfl 48 (by omega) (Nat.le_of_ble_eq_true rfl) dX5_load_57 ?_
  refine wl_top (y := zv (su (q_sv (su Z 6 2 (nI 0)) b) 6 1 0) 7 5) rfl ?_
  refine lv_iconst (v := 1) hx hb dX5_load_58 (by decide) ?_
  refine lv_iadd hx hb dX5_load_59 ?_
  refine wl_iast hx hb hK hP hD hS 0 1 rfl rfl 48 (by omega) (Nat.le_of_ble_eq_true rfl) dX5_load_60 (fun H locs hP hD hS => ?_)
  have hP : va_P D vwCl ([moW cy a (su (su (q_sv (su Z 6 2 (nI 0)) b) 6 1 0) 0 48 ((zv (su (q_sv (su Z 6 2 (nI 0)) b) 6 1 0) 7 5) + 1))] : List va_W).flatten H := hP
  have hD : va_D A ([moW cy a (su (su (q_sv (su Z 6 2 (nI 0)) b) 6 1 0) 0 48 ((zv (su (q_sv (su Z 6 2 (nI 0)) b) 6 1 0) 7 5) + 1))] : List va_W).flatten := hD
  refine lv_iconst (v := (-1)) hx hb dX5_load_61 (by decide) ?_
  exact wl_Ri (bs := [moW cy a (su (su (q_sv (su Z 6 2 (nI 0)) b) 6 1 0) 0 48 ((zv (su (q_sv (su Z 6 2 (nI 0)) b) 6 1 0) 7 5) + 1))]) (r := (-1)) hx hb hr hlocks hAe hP hD hS (by exact ⟨Z, rfl, rfl, hRT⟩) dX5_load_62
set_option maxHeartbeats 4000000 in
set_option maxRecDepth 100000 in
theorem r_X5_loadN (l : Launch) (D : va_G) (cy : Nat → ClassId) (a : Nat → Nat) (u : Nat → Nat → Int32) (k n b : Nat) (sz : Nat) (hkk : u 6 1 = nI k) (hk2 : k ≤ 60) (hn : u 0 49 = nI n) (hn2 : n ≤ 120) (hsv : u 6 0 = nI b) (hsv2 : b ≤ 6) (hw0 : ¬ q_wt (tv u) k = 0) (hf : n + 12 * q_wt (tv u) k ≤ 120) (hg : ¬ q_sg (tv u) k (nI k - 1) = 33) : Met l yX5_load wsX5_load ({ frames := 4, cells := 0, slots := 0, locals := 86 } : Room) (wl_ic D cy (fun _ => True) [moW cy a u] sz [.ref (a 0)]) (va_Qi (fun (r : Int32) (bs : List va_W) => ∃ (Z : Nat → Nat → Int32), r = nI (q_wt (tv u) k) ∧ bs = [moW cy a (q_ldm (tv u) k n (su (q_sv (su Z 6 2 (nI 0)) b) 6 1 0) (q_wt (tv u) k))] ∧ q_RT u k Z) (wl_ib D [moW cy a u] sz) (va_A ([moW cy a u] : List va_W).flatten sz)) 0 0 (va_A ([moW cy a u] : List va_W).flatten sz) := by
  refine wl_ofI (cc := cX5_load) (maxL := 2) (ret := (some .int)) (by decide) rfl (Nat.le_of_ble_eq_true rfl) ?_
  intro p e s m below meth c ls A hx hb hr hts hown hlocks hml hnm hsz hAe hP hK hD hX hA hS hl
  have hl : lv_has ls 2 [(0, .ref (a 0))] := hl
  have lkf113 := hts (.fieldLink RX5 113 "WireLampsModel" "length" "I") (by decide +kernel)
  have lkf122 := hts (.fieldLink RX5 122 "WireLampsModel" "toldMany" "I") (by decide +kernel)
  have lkf132 := hts (.fieldLink RX5 132 "WireLampsModel" "hasGap" "Z") (by decide +kernel)
  have lkf30 := hts (.fieldLink RX5 30 "WireLampsModel" "told" "[I") (by decide +kernel)
  have lkf7 := hts (.fieldLink RX5 7 "WireLampsModel" "z" "[I") (by decide +kernel)
  have in_X5 : ∀ w ∈ u_ws RX5 TX5 13, w ∈ wsX5_load := by decide +kernel
  refine lv_aload_n hx hb dX5_load_0 rfl (lv_at hl 0 rfl) ?_
  refine lv_aload_n hx hb dX5_load_1 rfl (lv_at hl 0 rfl) ?_
  refine wl_iV (As := []) (rest := [.ref (a 0)]) (bsC := [moW cy a u]) (bsR := []) ⟨hx, hb, hml, hown, hts⟩ (m_X5_readText l D cy a u k s.heap.size hkk (by omega)) (cwV 0 hts gX5_load_X5_readText rfl rfl rfl (by decide +kernel) ⟨Nat.le_of_ble_eq_true rfl, Nat.le_of_ble_eq_true rfl⟩) wl_xT (fun _ _ _ => trivial) hK hP hD hS hA rfl rfl rfl rfl rfl hl.1 rfl (Nat.le_of_ble_eq_true rfl) dX5_load_2 ⟨Nat.le_of_ble_eq_true rfl, Nat.le_of_ble_eq_true rfl⟩ (fun r1 bs2 H locs e3 _ _ hP hD hS => ?_)
  obtain ⟨Z4, er1, e3, f5⟩ := e3
  have e3 : bs2 = [moW cy a Z4] := e3
  subst e3
  have er1 : r1 = (if (¬ q_wt (tv u) k = 0) then 1 else 0) := er1
  have hP : va_P D vwCl ([moW cy a Z4] : List va_W).flatten H := hP
  have hD : va_D A ([moW cy a Z4] : List va_W).flatten := hD
  obtain ⟨Z, hZe⟩ : ∃ Z, Z = Z4 := ⟨_, rfl⟩
  subst hZe
  have hRT := f5
  obtain ⟨hr5, ⟨h60, h61, h62, h63⟩, h66, hrw⟩ := f5
  refine wl_b_eq (tgt := 12) hx hb (¬ q_wt (tv u) k = 0) er1 dX5_load_5 (by decide) (fun c6 => absurd hw0 c6) (fun c6 => ?_)
  refine lv_iconst (v := 0) hx hb dX5_load_8 (by decide) ?_
  refine lv_goto (tgt := 13) hx hb dX5_load_9 (by decide) ?_
  refine wl_iV (As := [.int 0]) (rest := []) (bsC := [moW cy a Z]) (bsR := []) ⟨hx, hb, hml, hown, hts⟩ (m_X5_refused l D cy a Z 0 H.size (by omega)) (cwV 1 hts gX5_load_X5_refused rfl rfl rfl (by decide +kernel) ⟨Nat.le_of_ble_eq_true rfl, Nat.le_of_ble_eq_true rfl⟩) wl_xT (fun _ _ _ => trivial) hK hP hD hS hA rfl rfl rfl rfl rfl hl.1 rfl (Nat.le_of_ble_eq_true rfl) dX5_load_13 ⟨Nat.le_of_ble_eq_true rfl, Nat.le_of_ble_eq_true rfl⟩ (fun r7 bs8 H locs e9 _ _ hP hD hS => ?_)
  obtain ⟨er7, e9⟩ : r7 = (if (0 < 0) then 1 else 0) ∧ bs8 = [moW cy a (su Z 6 2 (nI 0))] := e9
  subst e9
  have hP : va_P D vwCl ([moW cy a (su Z 6 2 (nI 0))] : List va_W).flatten H := hP
  have hD : va_D A ([moW cy a (su Z 6 2 (nI 0))] : List va_W).flatten := hD
  refine wl_b_eq (tgt := 21) hx hb (0 < 0) er7 dX5_load_16 (by decide) (fun c10 => ?_) (fun c10 => absurd c10 (by decide))
  have hw9 := hrw hw0
  have hw10 := hw9.2.1
  refine lv_aload_n hx hb dX5_load_21 rfl (lv_at hl 0 rfl) ?_
  refine wl_iVv (As := []) (rest := []) (bsC := [moW cy a (su Z 6 2 (nI 0))]) (bsR := []) ⟨hx, hb, hml, hown, hts⟩ (m_X5_saveState l D cy a (su Z 6 2 (nI 0)) b H.size (h60.trans hsv) (by omega)) (cwV 0 hts gX5_load_X5_saveState rfl rfl rfl (by decide +kernel) ⟨Nat.le_of_ble_eq_true rfl, Nat.le_of_ble_eq_true rfl⟩) wl_xT (fun _ _ _ => trivial) hK hP hD hS hA rfl rfl rfl rfl rfl hl.1 rfl (Nat.le_of_ble_eq_true rfl) dX5_load_22 ⟨Nat.le_of_ble_eq_true rfl, Nat.le_of_ble_eq_true rfl⟩ (fun bs11 H locs e12 _ _ hP hD hS => ?_)
  have e12 : bs11 = [moW cy a (q_sv (su Z 6 2 (nI 0)) b)] := e12
  subst e12
  have hP : va_P D vwCl ([moW cy a (q_sv (su Z 6 2 (nI 0)) b)] : List va_W).flatten H := hP
  have hD : va_D A ([moW cy a (q_sv (su Z 6 2 (nI 0)) b)] : List va_W).flatten := hD
  refine lv_aload_n hx hb dX5_load_25 rfl (lv_at hl 0 rfl) ?_
  refine lv_iconst (v := 0) hx hb dX5_load_26 (by decide) ?_
  refine wl_putf (C := RX5) (T := TX5) (N := 13) (ci := 5) (v := .int 0) hx hb hts in_X5 tyX5 tyX5_ok nmX5 hown hK hP hD hS 0 0 rfl rfl rfl 6 (by decide) lkf113 rfl rfl rfl rfl (Nat.le_of_ble_eq_true rfl) dX5_load_27 (fun H locs hP hD hS => ?_)
  have hP : va_P D vwCl ([moW cy a (su (q_sv (su Z 6 2 (nI 0)) b) 6 1 0)] : List va_W).flatten H := hP
  have hD : va_D A ([moW cy a (su (q_sv (su Z 6 2 (nI 0)) b) 6 1 0)] : List va_W).flatten := hD
  refine lv_aload_n hx hb dX5_load_30 rfl (lv_at hl 0 rfl) ?_
  refine wl_getf (C := RX5) (T := TX5) (N := 13) (ci := 5) (v := .ref (a 1)) hx hb hts in_X5 hown hK hP 0 0 rfl rfl rfl 0 (by decide) lkf7 rfl rfl dX5_load_31 ?_
  refine lv_bipush (v := 49) hx hb dX5_load_34 (by decide) ?_
  refine wl_iald hx hb hK hP 0 1 rfl rfl 49 (by omega) (Nat.le_of_ble_eq_true rfl) dX5_load_36 ?_
  refine wl_top (y := nI n) ((congrFun (hr5 0 (by omega)) 49).trans hn) ?_
  refine lv_bipush (v := 12) hx hb dX5_load_37 (by decide) ?_
  refine lv_aload_n hx hb dX5_load_39 rfl (lv_at hl 0 rfl) ?_
  refine wl_getf (C := RX5) (T := TX5) (N := 13) (ci := 5) (v := .int ((q_sv (su Z 6 2 (nI 0)) b) 6 4)) hx hb hts in_X5 hown hK hP 0 0 rfl rfl rfl 10 (by decide) lkf122 rfl rfl dX5_load_40 ?_
  refine wl_top (y := nI (q_wt (tv u) k)) hw9.1 ?_
  refine lv_imul hx hb dX5_load_43 ?_
  refine wl_top (y := nI (12 * (q_wt (tv u) k))) (pk_mul 12 (q_wt (tv u) k)) ?_
  refine lv_iadd hx hb dX5_load_44 ?_
  refine wl_top (y := nI (n + (12 * (q_wt (tv u) k)))) (nI_add n (12 * (q_wt (tv u) k))) ?_
  refine lv_bipush (v := 120) hx hb dX5_load_45 (by decide) ?_
  refine wl_icmp_le (tgt := 63) hx hb (n + (12 * (q_wt (tv u) k))) 120 dX5_load_47 (by decide) (by omega) (by omega) (fun c13 => ?_) (fun c13 => absurd hf c13)
  refine lv_iconst (v := 0) hx hb dX5_load_63 (by decide) ?_
  refine lv_istore_n (lv' := [(1, .int 0), (0, .ref (a 0))]) hx hb dX5_load_64 rfl hl (by decide) rfl (fun ls hl => ?_)
  suffices K14 : ∀ (n15 : Nat) (i : Nat), q_wt (tv u) k - i < n15 → (i ≤ q_wt (tv u) k) → ∀ (ls : Array Slot) (H : Heap) (locs : List Loc), va_P D vwCl ([moW cy a (q_ldm (tv u) k n (su (q_sv (su Z 6 2 (nI 0)) b) 6 1 0) i)] : List va_W).flatten H → va_D A ([moW cy a (q_ldm (tv u) k n (su (q_sv (su Z 6 2 (nI 0)) b) 6 1 0) i)] : List va_W).flatten → va_S A s.heap H locs → lv_has ls 2 [(1, .int (nI i)), (0, .ref (a 0))] → W p l e ({ frames := 4, cells := 0, slots := 0, locals := 86 } : Room) s m ([.ref (a 0)] : List Value).toArray below meth c H locs 0 0 (MQ below (va_Qi (fun (r : Int32) (bs : List va_W) => ∃ (Z : Nat → Nat → Int32), r = nI (q_wt (tv u) k) ∧ bs = [moW cy a (q_ldm (tv u) k n (su (q_sv (su Z 6 2 (nI 0)) b) 6 1 0) (q_wt (tv u) k))] ∧ q_RT u k Z) (wl_ib D [moW cy a u] sz) (va_A ([moW cy a u] : List va_W).flatten sz)) ([.ref (a 0)] : List Value).toArray s 0 0 (va_A ([moW cy a u] : List va_W).flatten sz)) (F0 m 65 ls []) from K14 (q_wt (tv u) k + 1) 0 (by omega) (by omega) _ _ _ hP hD hS (lv_sub hl [0, 1] rfl)
  intro n15
  induction n15 with
  | zero => intro i hm; exact absurd hm (Nat.not_lt_zero _)
  | succ n15 ih16 =>
    intro i hm hi ls H locs hP hD hS hl
    refine lv_iload_n hx hb dX5_load_65 rfl (lv_at hl 0 rfl) ?_
    refine lv_aload_n hx hb dX5_load_66 rfl (lv_at hl 1 rfl) ?_
    refine wl_getf (C := RX5) (T := TX5) (N := 13) (ci := 5) (v := .int ((q_ldm (tv u) k n (su (q_sv (su Z 6 2 (nI 0)) b) 6 1 0) i) 6 4)) hx hb hts in_X5 hown hK hP 0 0 rfl rfl rfl 10 (by decide) lkf122 rfl rfl dX5_load_67 ?_
    refine wl_top (y := nI (q_wt (tv u) k)) ((congrFun (q_ldm_r (by decide) _) 4).trans hw9.1) ?_
    refine wl_icmp_ge (tgt := 89) hx hb i (q_wt (tv u) k) dX5_load_70 (by decide) (by omega) (by omega) (fun c17 => ?_) (fun c17 => ?_)
    · obtain rfl : i = q_wt (tv u) k := by omega
      refine lv_aload_n hx hb dX5_load_89 rfl (lv_at hl 1 rfl) ?_
      refine wl_getf (C := RX5) (T := TX5) (N := 13) (ci := 5) (v := .int ((q_ldm (tv u) k n (su (q_sv (su Z 6 2 (nI 0)) b) 6 1 0) (q_wt (tv u) k)) 6 5)) hx hb hts in_X5 hown hK hP 0 0 rfl rfl rfl 11 (by decide) lkf132 rfl rfl dX5_load_90 ?_
      refine wl_top (y := 0) ((congrFun (q_ldm_r (by decide) _) 5).trans (hw9.2.2.2.trans (if_neg hg))) ?_
      refine wl_if_eq (tgt := 101) hx hb 0 dX5_load_93 (by decide) (by omega) (fun c18 => ?_) (fun c18 => absurd c18 (by decide))
      refine lv_aload_n hx hb dX5_load_101 rfl (lv_at hl 1 rfl) ?_
      refine wl_getf (C := RX5) (T := TX5) (N := 13) (ci := 5) (v := .int ((q_ldm (tv u) k n (su (q_sv (su Z 6 2 (nI 0)) b) 6 1 0) (q_wt (tv u) k)) 6 4)) hx hb hts in_X5 hown hK hP 0 0 rfl rfl rfl 10 (by decide) lkf122 rfl rfl dX5_load_102 ?_
      refine wl_top (y := nI (q_wt (tv u) k)) ((congrFun (q_ldm_r (by decide) _) 4).trans hw9.1) ?_
      exact wl_Ri (bs := [moW cy a (q_ldm (tv u) k n (su (q_sv (su Z 6 2 (nI 0)) b) 6 1 0) (q_wt (tv u) k))]) (r := (nI (q_wt (tv u) k))) hx hb hr hlocks hAe hP hD hS (by exact ⟨Z, rfl, rfl, hRT⟩) dX5_load_105
    · refine lv_aload_n hx hb dX5_load_73 rfl (lv_at hl 1 rfl) ?_
      refine lv_aload_n hx hb dX5_load_74 rfl (lv_at hl 1 rfl) ?_
      refine wl_getf (C := RX5) (T := TX5) (N := 13) (ci := 5) (v := .ref (a 6)) hx hb hts in_X5 hown hK hP 0 0 rfl rfl rfl 9 (by decide) lkf30 rfl rfl dX5_load_75 ?_
      refine lv_iload_n hx hb dX5_load_78 rfl (lv_at hl 0 rfl) ?_
      refine wl_iald hx hb hK hP 0 6 rfl rfl i (by omega) (Nat.le_of_ble_eq_true rfl) dX5_load_79 ?_
      refine wl_top (y := q_wat (tv u) k i) ((congrFun (q_ldm_r (by decide) _) i).trans (hw9.2.2.1 i (by omega))) ?_
      refine wl_iVv (As := [.int (q_wat (tv u) k i)]) (rest := []) (bsC := [moW cy a (q_ldm (tv u) k n (su (q_sv (su Z 6 2 (nI 0)) b) 6 1 0) i)]) (bsR := []) ⟨hx, hb, hml, hown, hts⟩ (m_X5_sendNow l D cy a (q_ldm (tv u) k n (su (q_sv (su Z 6 2 (nI 0)) b) 6 1 0) i) (q_wat (tv u) k i) (n + 12 * i) H.size (q_ldm_cnt (U := (su (q_sv (su Z 6 2 (nI 0)) b) 6 1 0)) ((congrFun (hr5 0 (by omega)) 49).trans hn) i) (by omega)) (cwV 1 hts gX5_load_X5_sendNow rfl rfl rfl (by decide +kernel) ⟨Nat.le_of_ble_eq_true rfl, Nat.le_of_ble_eq_true rfl⟩) wl_xT (fun _ _ _ => trivial) hK hP hD hS hA rfl rfl rfl rfl rfl hl.1 rfl (Nat.le_of_ble_eq_true rfl) dX5_load_80 ⟨Nat.le_of_ble_eq_true rfl, Nat.le_of_ble_eq_true rfl⟩ (fun bs19 H locs e20 _ _ hP hD hS => ?_)
      have e20 : bs19 = [moW cy a (q_sn (q_ldm (tv u) k n (su (q_sv (su Z 6 2 (nI 0)) b) 6 1 0) i) (n + 12 * i) (q_wat (tv u) k i) 12)] := e20
      subst e20
      have hP : va_P D vwCl ([moW cy a (q_sn (q_ldm (tv u) k n (su (q_sv (su Z 6 2 (nI 0)) b) 6 1 0) i) (n + 12 * i) (q_wat (tv u) k i) 12)] : List va_W).flatten H := hP
      have hD : va_D A ([moW cy a (q_sn (q_ldm (tv u) k n (su (q_sv (su Z 6 2 (nI 0)) b) 6 1 0) i) (n + 12 * i) (q_wat (tv u) k i) 12)] : List va_W).flatten := hD
      refine lv_iinc (v := nI (i + 1)) (lv' := [(1, .int (nI (i + 1))), (0, .ref (a 0))]) hx hb dX5_load_83 hl (k := 0) rfl (wl_inc i) (by decide) rfl (fun ls hl => ?_)
      refine lv_goto (tgt := 65) hx hb dX5_load_86 (by decide) ?_
      exact ih16 (i + 1) (by omega) (by omega) _ _ _ hP hD hS (lv_sub hl [0, 1] rfl)
set_option maxHeartbeats 4000000 in
set_option maxRecDepth 100000 in
theorem r_X5_loadG (l : Launch) (D : va_G) (cy : Nat → ClassId) (a : Nat → Nat) (u : Nat → Nat → Int32) (k n b : Nat) (sz : Nat) (hkk : u 6 1 = nI k) (hk2 : k ≤ 60) (hn : u 0 49 = nI n) (hn2 : n ≤ 120) (hsv : u 6 0 = nI b) (hsv2 : b ≤ 6) (hw0 : ¬ q_wt (tv u) k = 0) (hf : n + 12 * q_wt (tv u) k ≤ 120) (hg : q_sg (tv u) k (nI k - 1) = 33) : Met l yX5_load wsX5_load ({ frames := 6, cells := 0, slots := 0, locals := 135 } : Room) (wl_ic D cy (fun _ => True) [moW cy a u] sz [.ref (a 0)]) (va_Qi (fun (r : Int32) (bs : List va_W) => ∃ (Z : Nat → Nat → Int32), r = nI (q_wt (tv u) k) ∧ bs = [moW cy a (q_gq (q_ldm (tv u) k n (su (q_sv (su Z 6 2 (nI 0)) b) 6 1 0) (q_wt (tv u) k)) (n + 12 * q_wt (tv u) k))] ∧ q_RT u k Z) (wl_ib D [moW cy a u] sz) (va_A ([moW cy a u] : List va_W).flatten sz)) 0 0 (va_A ([moW cy a u] : List va_W).flatten sz) := by
  refine wl_ofI (cc := cX5_load) (maxL := 2) (ret := (some .int)) (by decide) rfl (Nat.le_of_ble_eq_true rfl) ?_
  intro p e s m below meth c ls A hx hb hr hts hown hlocks hml hnm hsz hAe hP hK hD hX hA hS hl
  have hl : lv_has ls 2 [(0, .ref (a 0))] := hl
  have lkf113 := hts (.fieldLink RX5 113 "WireLampsModel" "length" "I") (by decide +kernel)
  have lkf122 := hts (.fieldLink RX5 122 "WireLampsModel" "toldMany" "I") (by decide +kernel)
  have lkf132 := hts (.fieldLink RX5 132 "WireLampsModel" "hasGap" "Z") (by decide +kernel)
  have lkf30 := hts (.fieldLink RX5 30 "WireLampsModel" "told" "[I") (by decide +kernel)
  have lkf7 := hts (.fieldLink RX5 7 "WireLampsModel" "z" "[I") (by decide +kernel)
  have in_X5 : ∀ w ∈ u_ws RX5 TX5 13, w ∈ wsX5_load := by decide +kernel
  refine lv_aload_n hx hb dX5_load_0 rfl (lv_at hl 0 rfl) ?_
  refine lv_aload_n hx hb dX5_load_1 rfl (lv_at hl 0 rfl) ?_
  refine wl_iV (As := []) (rest := [.ref (a 0)]) (bsC := [moW cy a u]) (bsR := []) ⟨hx, hb, hml, hown, hts⟩ (m_X5_readText l D cy a u k s.heap.size hkk (by omega)) (cwV 0 hts gX5_load_X5_readText rfl rfl rfl (by decide +kernel) ⟨Nat.le_of_ble_eq_true rfl, Nat.le_of_ble_eq_true rfl⟩) wl_xT (fun _ _ _ => trivial) hK hP hD hS hA rfl rfl rfl rfl rfl hl.1 rfl (Nat.le_of_ble_eq_true rfl) dX5_load_2 ⟨Nat.le_of_ble_eq_true rfl, Nat.le_of_ble_eq_true rfl⟩ (fun r1 bs2 H locs e3 _ _ hP hD hS => ?_)
  obtain ⟨Z4, er1, e3, f5⟩ := e3
  have e3 : bs2 = [moW cy a Z4] := e3
  subst e3
  have er1 : r1 = (if (¬ q_wt (tv u) k = 0) then 1 else 0) := er1
  have hP : va_P D vwCl ([moW cy a Z4] : List va_W).flatten H := hP
  have hD : va_D A ([moW cy a Z4] : List va_W).flatten := hD
  obtain ⟨Z, hZe⟩ : ∃ Z, Z = Z4 := ⟨_, rfl⟩
  subst hZe
  have hRT := f5
  obtain ⟨hr5, ⟨h60, h61, h62, h63⟩, h66, hrw⟩ := f5
  refine wl_b_eq (tgt := 12) hx hb (¬ q_wt (tv u) k = 0) er1 dX5_load_5 (by decide) (fun c6 => absurd hw0 c6) (fun c6 => ?_)
  refine lv_iconst (v := 0) hx hb dX5_load_8 (by decide) ?_
  refine lv_goto (tgt := 13) hx hb dX5_load_9 (by decide) ?_
  refine wl_iV (As := [.int 0]) (rest := []) (bsC := [moW cy a Z]) (bsR := []) ⟨hx, hb, hml, hown, hts⟩ (m_X5_refused l D cy a Z 0 H.size (by omega)) (cwV 1 hts gX5_load_X5_refused rfl rfl rfl (by decide +kernel) ⟨Nat.le_of_ble_eq_true rfl, Nat.le_of_ble_eq_true rfl⟩) wl_xT (fun _ _ _ => trivial) hK hP hD hS hA rfl rfl rfl rfl rfl hl.1 rfl (Nat.le_of_ble_eq_true rfl) dX5_load_13 ⟨Nat.le_of_ble_eq_true rfl, Nat.le_of_ble_eq_true rfl⟩ (fun r7 bs8 H locs e9 _ _ hP hD hS => ?_)
  obtain ⟨er7, e9⟩ : r7 = (if (0 < 0) then 1 else 0) ∧ bs8 = [moW cy a (su Z 6 2 (nI 0))] := e9
  subst e9
  have hP : va_P D vwCl ([moW cy a (su Z 6 2 (nI 0))] : List va_W).flatten H := hP
  have hD : va_D A ([moW cy a (su Z 6 2 (nI 0))] : List va_W).flatten := hD
  refine wl_b_eq (tgt := 21) hx hb (0 < 0) er7 dX5_load_16 (by decide) (fun c10 => ?_) (fun c10 => absurd c10 (by decide))
  have hw9 := hrw hw0
  have hw10 := hw9.2.1
  refine lv_aload_n hx hb dX5_load_21 rfl (lv_at hl 0 rfl) ?_
  refine wl_iVv (As := []) (rest := []) (bsC := [moW cy a (su Z 6 2 (nI 0))]) (bsR := []) ⟨hx, hb, hml, hown, hts⟩ (m_X5_saveState l D cy a (su Z 6 2 (nI 0)) b H.size (h60.trans hsv) (by omega)) (cwV 0 hts gX5_load_X5_saveState rfl rfl rfl (by decide +kernel) ⟨Nat.le_of_ble_eq_true rfl, Nat.le_of_ble_eq_true rfl⟩) wl_xT (fun _ _ _ => trivial) hK hP hD hS hA rfl rfl rfl rfl rfl hl.1 rfl (Nat.le_of_ble_eq_true rfl) dX5_load_22 ⟨Nat.le_of_ble_eq_true rfl, Nat.le_of_ble_eq_true rfl⟩ (fun bs11 H locs e12 _ _ hP hD hS => ?_)
  have e12 : bs11 = [moW cy a (q_sv (su Z 6 2 (nI 0)) b)] := e12
  subst e12
  have hP : va_P D vwCl ([moW cy a (q_sv (su Z 6 2 (nI 0)) b)] : List va_W).flatten H := hP
  have hD : va_D A ([moW cy a (q_sv (su Z 6 2 (nI 0)) b)] : List va_W).flatten := hD
  refine lv_aload_n hx hb dX5_load_25 rfl (lv_at hl 0 rfl) ?_
  refine lv_iconst (v := 0) hx hb dX5_load_26 (by decide) ?_
  refine wl_putf (C := RX5) (T := TX5) (N := 13) (ci := 5) (v := .int 0) hx hb hts in_X5 tyX5 tyX5_ok nmX5 hown hK hP hD hS 0 0 rfl rfl rfl 6 (by decide) lkf113 rfl rfl rfl rfl (Nat.le_of_ble_eq_true rfl) dX5_load_27 (fun H locs hP hD hS => ?_)
  have hP : va_P D vwCl ([moW cy a (su (q_sv (su Z 6 2 (nI 0)) b) 6 1 0)] : List va_W).flatten H := hP
  have hD : va_D A ([moW cy a (su (q_sv (su Z 6 2 (nI 0)) b) 6 1 0)] : List va_W).flatten := hD
  refine lv_aload_n hx hb dX5_load_30 rfl (lv_at hl 0 rfl) ?_
  refine wl_getf (C := RX5) (T := TX5) (N := 13) (ci := 5) (v := .ref (a 1)) hx hb hts in_X5 hown hK hP 0 0 rfl rfl rfl 0 (by decide) lkf7 rfl rfl dX5_load_31 ?_
  refine lv_bipush (v := 49) hx hb dX5_load_34 (by decide) ?_
  refine wl_iald hx hb hK hP 0 1 rfl rfl 49 (by omega) (Nat.le_of_ble_eq_true rfl) dX5_load_36 ?_
  refine wl_top (y := nI n) ((congrFun (hr5 0 (by omega)) 49).trans hn) ?_
  refine lv_bipush (v := 12) hx hb dX5_load_37 (by decide) ?_
  refine lv_aload_n hx hb dX5_load_39 rfl (lv_at hl 0 rfl) ?_
  refine wl_getf (C := RX5) (T := TX5) (N := 13) (ci := 5) (v := .int ((q_sv (su Z 6 2 (nI 0)) b) 6 4)) hx hb hts in_X5 hown hK hP 0 0 rfl rfl rfl 10 (by decide) lkf122 rfl rfl dX5_load_40 ?_
  refine wl_top (y := nI (q_wt (tv u) k)) hw9.1 ?_
  refine lv_imul hx hb dX5_load_43 ?_
  refine wl_top (y := nI (12 * (q_wt (tv u) k))) (pk_mul 12 (q_wt (tv u) k)) ?_
  refine lv_iadd hx hb dX5_load_44 ?_
  refine wl_top (y := nI (n + (12 * (q_wt (tv u) k)))) (nI_add n (12 * (q_wt (tv u) k))) ?_
  refine lv_bipush (v := 120) hx hb dX5_load_45 (by decide) ?_
  refine wl_icmp_le (tgt := 63) hx hb (n + (12 * (q_wt (tv u) k))) 120 dX5_load_47 (by decide) (by omega) (by omega) (fun c13 => ?_) (fun c13 => absurd hf c13)
  refine lv_iconst (v := 0) hx hb dX5_load_63 (by decide) ?_
  refine lv_istore_n (lv' := [(1, .int 0), (0, .ref (a 0))]) hx hb dX5_load_64 rfl hl (by decide) rfl (fun ls hl => ?_)
  suffices K14 : ∀ (n15 : Nat) (i : Nat), q_wt (tv u) k - i < n15 → (i ≤ q_wt (tv u) k) → ∀ (ls : Array Slot) (H : Heap) (locs : List Loc), va_P D vwCl ([moW cy a (q_ldm (tv u) k n (su (q_sv (su Z 6 2 (nI 0)) b) 6 1 0) i)] : List va_W).flatten H → va_D A ([moW cy a (q_ldm (tv u) k n (su (q_sv (su Z 6 2 (nI 0)) b) 6 1 0) i)] : List va_W).flatten → va_S A s.heap H locs → lv_has ls 2 [(1, .int (nI i)), (0, .ref (a 0))] → W p l e ({ frames := 6, cells := 0, slots := 0, locals := 135 } : Room) s m ([.ref (a 0)] : List Value).toArray below meth c H locs 0 0 (MQ below (va_Qi (fun (r : Int32) (bs : List va_W) => ∃ (Z : Nat → Nat → Int32), r = nI (q_wt (tv u) k) ∧ bs = [moW cy a (q_gq (q_ldm (tv u) k n (su (q_sv (su Z 6 2 (nI 0)) b) 6 1 0) (q_wt (tv u) k)) (n + 12 * q_wt (tv u) k))] ∧ q_RT u k Z) (wl_ib D [moW cy a u] sz) (va_A ([moW cy a u] : List va_W).flatten sz)) ([.ref (a 0)] : List Value).toArray s 0 0 (va_A ([moW cy a u] : List va_W).flatten sz)) (F0 m 65 ls []) from K14 (q_wt (tv u) k + 1) 0 (by omega) (by omega) _ _ _ hP hD hS (lv_sub hl [0, 1] rfl)
  intro n15
  induction n15 with
  | zero => intro i hm; exact absurd hm (Nat.not_lt_zero _)
  | succ n15 ih16 =>
    intro i hm hi ls H locs hP hD hS hl
    refine lv_iload_n hx hb dX5_load_65 rfl (lv_at hl 0 rfl) ?_
    refine lv_aload_n hx hb dX5_load_66 rfl (lv_at hl 1 rfl) ?_
    refine wl_getf (C := RX5) (T := TX5) (N := 13) (ci := 5) (v := .int ((q_ldm (tv u) k n (su (q_sv (su Z 6 2 (nI 0)) b) 6 1 0) i) 6 4)) hx hb hts in_X5 hown hK hP 0 0 rfl rfl rfl 10 (by decide) lkf122 rfl rfl dX5_load_67 ?_
    refine wl_top (y := nI (q_wt (tv u) k)) ((congrFun (q_ldm_r (by decide) _) 4).trans hw9.1) ?_
    refine wl_icmp_ge (tgt := 89) hx hb i (q_wt (tv u) k) dX5_load_70 (by decide) (by omega) (by omega) (fun c17 => ?_) (fun c17 => ?_)
    · obtain rfl : i = q_wt (tv u) k := by omega
      refine lv_aload_n hx hb dX5_load_89 rfl (lv_at hl 1 rfl) ?_
      refine wl_getf (C := RX5) (T := TX5) (N := 13) (ci := 5) (v := .int ((q_ldm (tv u) k n (su (q_sv (su Z 6 2 (nI 0)) b) 6 1 0) (q_wt (tv u) k)) 6 5)) hx hb hts in_X5 hown hK hP 0 0 rfl rfl rfl 11 (by decide) lkf132 rfl rfl dX5_load_90 ?_
      refine wl_top (y := 1) ((congrFun (q_ldm_r (by decide) _) 5).trans (hw9.2.2.2.trans (if_pos hg))) ?_
      refine wl_if_eq (tgt := 101) hx hb 1 dX5_load_93 (by decide) (by omega) (fun c18 => absurd c18 (by decide)) (fun c18 => ?_)
      refine lv_aload_n hx hb dX5_load_96 rfl (lv_at hl 1 rfl) ?_
      refine wl_iV (As := []) (rest := []) (bsC := [moW cy a (q_ldm (tv u) k n (su (q_sv (su Z 6 2 (nI 0)) b) 6 1 0) (q_wt (tv u) k))]) (bsR := []) ⟨hx, hb, hml, hown, hts⟩ (m_X5_gapNow l D cy a (q_ldm (tv u) k n (su (q_sv (su Z 6 2 (nI 0)) b) 6 1 0) (q_wt (tv u) k)) (n + 12 * q_wt (tv u) k) H.size (q_ldm_cnt (U := (su (q_sv (su Z 6 2 (nI 0)) b) 6 1 0)) ((congrFun (hr5 0 (by omega)) 49).trans hn) _) (by omega)) (cwV 0 hts gX5_load_X5_gapNow rfl rfl rfl (by decide +kernel) ⟨Nat.le_of_ble_eq_true rfl, Nat.le_of_ble_eq_true rfl⟩) wl_xT (fun _ _ _ => trivial) hK hP hD hS hA rfl rfl rfl rfl rfl hl.1 rfl (Nat.le_of_ble_eq_true rfl) dX5_load_97 ⟨Nat.le_of_ble_eq_true rfl, Nat.le_of_ble_eq_true rfl⟩ (fun r19 bs20 H locs e21 _ _ hP hD hS => ?_)
      obtain ⟨er19, e21⟩ : r19 = q_gc (su (q_ldm (tv u) k n (su (q_sv (su Z 6 2 (nI 0)) b) 6 1 0) (q_wt (tv u) k)) 6 3 (-1)) (n + 12 * q_wt (tv u) k) 8 ∧ bs20 = [moW cy a (q_gq (q_ldm (tv u) k n (su (q_sv (su Z 6 2 (nI 0)) b) 6 1 0) (q_wt (tv u) k)) (n + 12 * q_wt (tv u) k))] := e21
      subst e21
      subst er19
      have hP : va_P D vwCl ([moW cy a (q_gq (q_ldm (tv u) k n (su (q_sv (su Z 6 2 (nI 0)) b) 6 1 0) (q_wt (tv u) k)) (n + 12 * q_wt (tv u) k))] : List va_W).flatten H := hP
      have hD : va_D A ([moW cy a (q_gq (q_ldm (tv u) k n (su (q_sv (su Z 6 2 (nI 0)) b) 6 1 0) (q_wt (tv u) k)) (n + 12 * q_wt (tv u) k))] : List va_W).flatten := hD
      refine lv_pop hx hb dX5_load_100 rfl ?_
      refine lv_aload_n hx hb dX5_load_101 rfl (lv_at hl 1 rfl) ?_
      refine wl_getf (C := RX5) (T := TX5) (N := 13) (ci := 5) (v := .int ((q_gq (q_ldm (tv u) k n (su (q_sv (su Z 6 2 (nI 0)) b) 6 1 0) (q_wt (tv u) k)) (n + 12 * q_wt (tv u) k)) 6 4)) hx hb hts in_X5 hown hK hP 0 0 rfl rfl rfl 10 (by decide) lkf122 rfl rfl dX5_load_102 ?_
      refine wl_top (y := nI (q_wt (tv u) k)) ((congrFun (q_gq_r (by decide)) 4).trans ((congrFun (q_ldm_r (by decide) _) 4).trans hw9.1)) ?_
      exact wl_Ri (bs := [moW cy a (q_gq (q_ldm (tv u) k n (su (q_sv (su Z 6 2 (nI 0)) b) 6 1 0) (q_wt (tv u) k)) (n + 12 * q_wt (tv u) k))]) (r := (nI (q_wt (tv u) k))) hx hb hr hlocks hAe hP hD hS (by exact ⟨Z, rfl, rfl, hRT⟩) dX5_load_105
    · refine lv_aload_n hx hb dX5_load_73 rfl (lv_at hl 1 rfl) ?_
      refine lv_aload_n hx hb dX5_load_74 rfl (lv_at hl 1 rfl) ?_
      refine wl_getf (C := RX5) (T := TX5) (N := 13) (ci := 5) (v := .ref (a 6)) hx hb hts in_X5 hown hK hP 0 0 rfl rfl rfl 9 (by decide) lkf30 rfl rfl dX5_load_75 ?_
      refine lv_iload_n hx hb dX5_load_78 rfl (lv_at hl 0 rfl) ?_
      refine wl_iald hx hb hK hP 0 6 rfl rfl i (by omega) (Nat.le_of_ble_eq_true rfl) dX5_load_79 ?_
      refine wl_top (y := q_wat (tv u) k i) ((congrFun (q_ldm_r (by decide) _) i).trans (hw9.2.2.1 i (by omega))) ?_
      refine wl_iVv (As := [.int (q_wat (tv u) k i)]) (rest := []) (bsC := [moW cy a (q_ldm (tv u) k n (su (q_sv (su Z 6 2 (nI 0)) b) 6 1 0) i)]) (bsR := []) ⟨hx, hb, hml, hown, hts⟩ (m_X5_sendNow l D cy a (q_ldm (tv u) k n (su (q_sv (su Z 6 2 (nI 0)) b) 6 1 0) i) (q_wat (tv u) k i) (n + 12 * i) H.size (q_ldm_cnt (U := (su (q_sv (su Z 6 2 (nI 0)) b) 6 1 0)) ((congrFun (hr5 0 (by omega)) 49).trans hn) i) (by omega)) (cwV 1 hts gX5_load_X5_sendNow rfl rfl rfl (by decide +kernel) ⟨Nat.le_of_ble_eq_true rfl, Nat.le_of_ble_eq_true rfl⟩) wl_xT (fun _ _ _ => trivial) hK hP hD hS hA rfl rfl rfl rfl rfl hl.1 rfl (Nat.le_of_ble_eq_true rfl) dX5_load_80 ⟨Nat.le_of_ble_eq_true rfl, Nat.le_of_ble_eq_true rfl⟩ (fun bs22 H locs e23 _ _ hP hD hS => ?_)
      have e23 : bs22 = [moW cy a (q_sn (q_ldm (tv u) k n (su (q_sv (su Z 6 2 (nI 0)) b) 6 1 0) i) (n + 12 * i) (q_wat (tv u) k i) 12)] := e23
      subst e23
      have hP : va_P D vwCl ([moW cy a (q_sn (q_ldm (tv u) k n (su (q_sv (su Z 6 2 (nI 0)) b) 6 1 0) i) (n + 12 * i) (q_wat (tv u) k i) 12)] : List va_W).flatten H := hP
      have hD : va_D A ([moW cy a (q_sn (q_ldm (tv u) k n (su (q_sv (su Z 6 2 (nI 0)) b) 6 1 0) i) (n + 12 * i) (q_wat (tv u) k i) 12)] : List va_W).flatten := hD
      refine lv_iinc (v := nI (i + 1)) (lv' := [(1, .int (nI (i + 1))), (0, .ref (a 0))]) hx hb dX5_load_83 hl (k := 0) rfl (wl_inc i) (by decide) rfl (fun ls hl => ?_)
      refine lv_goto (tgt := 65) hx hb dX5_load_86 (by decide) ?_
      exact ih16 (i + 1) (by omega) (by omega) _ _ _ hP hD hS (lv_sub hl [0, 1] rfl)
