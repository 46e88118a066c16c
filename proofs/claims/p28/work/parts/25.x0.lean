/-! History -/
set_option maxHeartbeats 4000000 in
set_option maxRecDepth 100000 in
theorem m_X0_init (l : Launch) (D : va_G) (cy : Nat → ClassId) (h : Nat) (sz : Nat)  : Met l yX0_init wsX0_init ({ frames := 1, cells := 1, slots := 6, locals := 12 } : Room) (wl_ic D cy (wl_E) [([(h, .inr (0, [.null, .int 0]))] : va_W)] sz [.ref h]) (va_Qv (fun (bs : List va_W) => ∃ g : Nat, bs = [([(h, .inr (0, [.ref g, .int 0]))] : va_W), ([(g, .inl (cy 3, 6, (.inr (.inr (.inr (.inr (fun _ => none)))))))] : va_W)]) (wl_ib D [([(h, .inr (0, [.null, .int 0]))] : va_W)] sz) (va_A ([([(h, .inr (0, [.null, .int 0]))] : va_W)] : List va_W).flatten sz)) 1 6 (va_A ([([(h, .inr (0, [.null, .int 0]))] : va_W)] : List va_W).flatten sz) := by
  refine wl_ofI (cc := cX0_init) (maxL := 1) (ret := none) (by decide) rfl (Nat.le_of_ble_eq_true rfl) ?_
  intro p e s m below meth c ls A hx hb hr hts hown hlocks hml hnm hsz hAe hP hK hD hX hA hS hl
  have hl : lv_has ls 1 [(0, .ref h)] := hl
  have lkf11 := hts (.fieldLink RX0 11 "WireLamps$History" "states" "[LWireLamps$State;") (by decide +kernel)
  have lkk9 := hts (.classLink RX0 9 RX2) (by decide +kernel)
  have in_X0 : ∀ w ∈ u_ws RX0 TX0 2, w ∈ wsX0_init := by decide +kernel
  refine lv_aload_n hx hb dX0_init_0 rfl (lv_at hl 0 rfl) ?_
  refine W.objInit hx hb hown (hts (.methodLink RX0 3 objectInit) (by decide +kernel)) (hts (.instanceMethod objectInit) (by decide +kernel)) (hts (.code objectInit ⟨#[0xb1]⟩ 1 none) (by decide +kernel)) rfl (by rw [hml]; exact hl.1) rfl dX0_init_1 (Nat.le_of_ble_eq_true rfl) (Nat.le_of_ble_eq_true rfl) ?_
  refine W.eq (g2 := F0 m 4 ls []) rfl ?_
  refine lv_aload_n hx hb dX0_init_4 rfl (lv_at hl 0 rfl) ?_
  refine lv_bipush (v := 6) hx hb dX0_init_5 (by decide) ?_
  refine wl_newaq hx hb hown lkk9 hX.2.2.2.2.2.1 hK hP hD hS hA 6 (Nat.le_of_ble_eq_true rfl) (Nat.le_of_ble_eq_true rfl) (Nat.le_of_ble_eq_true rfl) dX0_init_7 (fun q1 H hP hD hS => ?_)
  refine W.widen (k := 1) (n := 6) (Nat.le_refl _) (Nat.le_refl _) ?_
  have hP : va_P D vwCl ([([(h, .inr (0, [.null, .int 0]))] : va_W), ([(q1, .inl (cy 3, 6, (.inr (.inr (.inr (.inr (fun _ => none)))))))] : va_W)] : List va_W).flatten H := hP
  have hD : va_D A ([([(h, .inr (0, [.null, .int 0]))] : va_W), ([(q1, .inl (cy 3, 6, (.inr (.inr (.inr (.inr (fun _ => none)))))))] : va_W)] : List va_W).flatten := hD
  refine wl_putF (C := RX0) (T := TX0) (N := 2) (ci := 0) (v := .ref q1) hx hb hts in_X0 tyX0 tyX0_ok nmX0 hown hK hP hD hS 0 0 rfl rfl rfl 0 (by decide) lkf11 rfl rfl hnm rfl rfl rfl (Nat.le_of_ble_eq_true rfl) dX0_init_10 (fun H locs hP hD hS => ?_)
  have hP : va_P D vwCl ([([(h, .inr (0, [.ref q1, .int 0]))] : va_W), ([(q1, .inl (cy 3, 6, (.inr (.inr (.inr (.inr (fun _ => none)))))))] : va_W)] : List va_W).flatten H := hP
  have hD : va_D A ([([(h, .inr (0, [.ref q1, .int 0]))] : va_W), ([(q1, .inl (cy 3, 6, (.inr (.inr (.inr (.inr (fun _ => none)))))))] : va_W)] : List va_W).flatten := hD
  have hP : va_P D vwCl ([([(h, .inr (0, [.ref q1, .int 0]))] : va_W), ([(q1, .inl (cy 3, 6, (.inr (.inr (.inr (.inr (fun _ => none)))))))] : va_W)] : List va_W).flatten H := hP
  have hD : va_D A ([([(h, .inr (0, [.ref q1, .int 0]))] : va_W), ([(q1, .inl (cy 3, 6, (.inr (.inr (.inr (.inr (fun _ => none)))))))] : va_W)] : List va_W).flatten := hD
  exact wl_Rv (bs := [([(h, .inr (0, [.ref q1, .int 0]))] : va_W), ([(q1, .inl (cy 3, 6, (.inr (.inr (.inr (.inr (fun _ => none)))))))] : va_W)]) hx hb hr hlocks hAe hP hD hS (by exact ⟨q1, rfl⟩) dX0_init_13
set_option maxHeartbeats 4000000 in
set_option maxRecDepth 100000 in
theorem m_X0_latest (l : Launch) (D : va_G) (cy : Nat → ClassId) (h g : Nat) (f : Nat → Option Nat) (z : Nat) (hz : z ≤ 6) : Met l yX0_latest wsX0_latest ({ frames := 0, cells := 0, slots := 0, locals := 0 } : Room) (wl_pc D cy [([(h, .inr (0, [.ref g, .int (nI z)]))] : va_W), ([(g, .inl (cy 3, 6, (.inr (.inr (.inr (.inr f))))))] : va_W)] [.ref h]) (va_Sq (fun r : Option Nat => r = if z = 0 then none else f (z - 1))) 0 0 (fun _ => False) := by
  refine wl_ofP (cc := cX0_latest) (maxL := 1) (ret := (some (.object "WireLamps$State"))) (by decide) rfl (Nat.le_of_ble_eq_true rfl) ?_
  intro p e s m below meth c ls hx hb hr hts hown hlocks hml hP hK hl
  have hl : lv_has ls 1 [(0, .ref h)] := hl
  have lkf11 := hts (.fieldLink RX0 11 "WireLamps$History" "states" "[LWireLamps$State;") (by decide +kernel)
  have lkf17 := hts (.fieldLink RX0 17 "WireLamps$History" "size" "I") (by decide +kernel)
  have in_X0 : ∀ w ∈ u_ws RX0 TX0 2, w ∈ wsX0_latest := by decide +kernel
  refine lv_aload_n hx hb dX0_latest_0 rfl (lv_at hl 0 rfl) ?_
  refine wl_getf (C := RX0) (T := TX0) (N := 2) (ci := 0) (v := .int (nI z)) hx hb hts in_X0 hown hK hP 0 0 rfl rfl rfl 1 (by decide) lkf17 rfl rfl dX0_latest_1 ?_
  refine wl_if_le (tgt := 30) hx hb z dX0_latest_4 (by decide) (by omega) (fun hz0 => ?_) (fun hz0 => ?_)
  · refine lv_null hx hb dX0_latest_30 ?_
    exact wl_rq (r := none) hx hb hr hlocks (by exact (if_pos hz0).symm) dX0_latest_31
  · refine lv_aload_n hx hb dX0_latest_7 rfl (lv_at hl 0 rfl) ?_
    refine wl_getf (C := RX0) (T := TX0) (N := 2) (ci := 0) (v := .int (nI z)) hx hb hts in_X0 hown hK hP 0 0 rfl rfl rfl 1 (by decide) lkf17 rfl rfl dX0_latest_8 ?_
    refine lv_bipush (v := 6) hx hb dX0_latest_11 (by decide) ?_
    refine wl_icmp_gt (tgt := 30) hx hb z 6 dX0_latest_13 (by decide) (by omega) (by omega) (fun c1 => absurd c1 (by omega)) (fun c1 => ?_)
    refine lv_aload_n hx hb dX0_latest_16 rfl (lv_at hl 0 rfl) ?_
    refine wl_getf (C := RX0) (T := TX0) (N := 2) (ci := 0) (v := .ref g) hx hb hts in_X0 hown hK hP 0 0 rfl rfl rfl 0 (by decide) lkf11 rfl rfl dX0_latest_17 ?_
    refine lv_aload_n hx hb dX0_latest_20 rfl (lv_at hl 0 rfl) ?_
    refine wl_getf (C := RX0) (T := TX0) (N := 2) (ci := 0) (v := .int (nI z)) hx hb hts in_X0 hown hK hP 0 0 rfl rfl rfl 1 (by decide) lkf17 rfl rfl dX0_latest_21 ?_
    refine lv_iconst (v := 1) hx hb dX0_latest_24 (by decide) ?_
    refine lv_isub hx hb dX0_latest_25 ?_
    refine wl_top (y := nI (z - 1)) (pk_sub (a := z) (b := 1) (by omega)) ?_
    refine wl_aald hx hb hK hP 1 0 rfl rfl (z - 1) (by omega) (Nat.le_of_ble_eq_true rfl) dX0_latest_26 ?_
    refine lv_goto (tgt := 31) hx hb dX0_latest_27 (by decide) ?_
    exact wl_rq (r := f (z - 1)) hx hb hr hlocks (by exact (if_neg hz0).symm) dX0_latest_31
set_option maxHeartbeats 4000000 in
set_option maxRecDepth 100000 in
theorem m_X0_forgetLatest (l : Launch) (D : va_G) (cy : Nat → ClassId) (h g : Nat) (z : Nat) (sz : Nat) (hz : 0 < z) (hz2 : z ≤ 6) : Met l yX0_forgetLatest wsX0_forgetLatest ({ frames := 0, cells := 0, slots := 0, locals := 0 } : Room) (wl_ic D cy (fun _ => True) [([(h, .inr (0, [.ref g, .int (nI z)]))] : va_W)] sz [.ref h]) (va_Qv (fun (bs : List va_W) => bs = [([(h, .inr (0, [.ref g, .int (nI (z - 1))]))] : va_W)]) (wl_ib D [([(h, .inr (0, [.ref g, .int (nI z)]))] : va_W)] sz) (va_A ([([(h, .inr (0, [.ref g, .int (nI z)]))] : va_W)] : List va_W).flatten sz)) 0 0 (va_A ([([(h, .inr (0, [.ref g, .int (nI z)]))] : va_W)] : List va_W).flatten sz) := by
  refine wl_ofI (cc := cX0_forgetLatest) (maxL := 1) (ret := none) (by decide) rfl (Nat.le_of_ble_eq_true rfl) ?_
  intro p e s m below meth c ls A hx hb hr hts hown hlocks hml hnm hsz hAe hP hK hD hX hA hS hl
  have hl : lv_has ls 1 [(0, .ref h)] := hl
  have lkf17 := hts (.fieldLink RX0 17 "WireLamps$History" "size" "I") (by decide +kernel)
  have in_X0 : ∀ w ∈ u_ws RX0 TX0 2, w ∈ wsX0_forgetLatest := by decide +kernel
  refine lv_aload_n hx hb dX0_forgetLatest_0 rfl (lv_at hl 0 rfl) ?_
  refine wl_getf (C := RX0) (T := TX0) (N := 2) (ci := 0) (v := .int (nI z)) hx hb hts in_X0 hown hK hP 0 0 rfl rfl rfl 1 (by decide) lkf17 rfl rfl dX0_forgetLatest_1 ?_
  refine wl_if_le (tgt := 17) hx hb z dX0_forgetLatest_4 (by decide) (by omega) (fun c1 => absurd c1 (by omega)) (fun c1 => ?_)
  refine lv_aload_n hx hb dX0_forgetLatest_7 rfl (lv_at hl 0 rfl) ?_
  refine lv_dup hx hb dX0_forgetLatest_8 rfl ?_
  refine wl_getf (C := RX0) (T := TX0) (N := 2) (ci := 0) (v := .int (nI z)) hx hb hts in_X0 hown hK hP 0 0 rfl rfl rfl 1 (by decide) lkf17 rfl rfl dX0_forgetLatest_9 ?_
  refine lv_iconst (v := 1) hx hb dX0_forgetLatest_12 (by decide) ?_
  refine lv_isub hx hb dX0_forgetLatest_13 ?_
  refine wl_top (y := nI (z - 1)) (pk_sub (a := z) (b := 1) (by omega)) ?_
  refine wl_putf (C := RX0) (T := TX0) (N := 2) (ci := 0) (v := .int (nI (z - 1))) hx hb hts in_X0 tyX0 tyX0_ok nmX0 hown hK hP hD hS 0 0 rfl rfl rfl 1 (by decide) lkf17 rfl rfl rfl rfl (Nat.le_of_ble_eq_true rfl) dX0_forgetLatest_14 (fun H locs hP hD hS => ?_)
  have hP : va_P D vwCl ([([(h, .inr (0, [.ref g, .int (nI (z - 1))]))] : va_W)] : List va_W).flatten H := hP
  have hD : va_D A ([([(h, .inr (0, [.ref g, .int (nI (z - 1))]))] : va_W)] : List va_W).flatten := hD
  exact wl_Rv (bs := [([(h, .inr (0, [.ref g, .int (nI (z - 1))]))] : va_W)]) hx hb hr hlocks hAe hP hD hS (by rfl) dX0_forgetLatest_17
set_option maxHeartbeats 4000000 in
set_option maxRecDepth 100000 in
theorem m_X0_dropOldest (l : Launch) (D : va_G) (cy : Nat → ClassId) (h g : Nat) (x0 x1 x2 x3 x4 x5 : ((Nat → Nat) × (Nat → Nat → Int32))) (sz : Nat)  : Met l yX0_dropOldest wsX0_dropOldest ({ frames := 0, cells := 0, slots := 0, locals := 0 } : Room) (wl_ic D cy (fun _ => True) [([(h, .inr (0, [.ref g, .int (nI 6)]))] : va_W), ([(g, .inl (cy 3, 6, (.inr (.inr (.inr (.inr (q_rf [x0, x1, x2, x3, x4, x5])))))))] : va_W), stW cy x0.1 x0.2, stW cy x1.1 x1.2, stW cy x2.1 x2.2, stW cy x3.1 x3.2, stW cy x4.1 x4.2, stW cy x5.1 x5.2] sz [.ref h]) (va_Qv (fun (bs : List va_W) => bs = [([(h, .inr (0, [.ref g, .int (nI 5)]))] : va_W), ([(g, .inl (cy 3, 6, (.inr (.inr (.inr (.inr (q_rf [x1, x2, x3, x4, x5, x0])))))))] : va_W), stW cy x0.1 x0.2, stW cy x1.1 x1.2, stW cy x2.1 x2.2, stW cy x3.1 x3.2, stW cy x4.1 x4.2, stW cy x5.1 x5.2]) (wl_ib D [([(h, .inr (0, [.ref g, .int (nI 6)]))] : va_W), ([(g, .inl (cy 3, 6, (.inr (.inr (.inr (.inr (q_rf [x0, x1, x2, x3, x4, x5])))))))] : va_W), stW cy x0.1 x0.2, stW cy x1.1 x1.2, stW cy x2.1 x2.2, stW cy x3.1 x3.2, stW cy x4.1 x4.2, stW cy x5.1 x5.2] sz) (va_A ([([(h, .inr (0, [.ref g, .int (nI 6)]))] : va_W), ([(g, .inl (cy 3, 6, (.inr (.inr (.inr (.inr (q_rf [x0, x1, x2, x3, x4, x5])))))))] : va_W), stW cy x0.1 x0.2, stW cy x1.1 x1.2, stW cy x2.1 x2.2, stW cy x3.1 x3.2, stW cy x4.1 x4.2, stW cy x5.1 x5.2] : List va_W).flatten sz)) 0 0 (va_A ([([(h, .inr (0, [.ref g, .int (nI 6)]))] : va_W), ([(g, .inl (cy 3, 6, (.inr (.inr (.inr (.inr (q_rf [x0, x1, x2, x3, x4, x5])))))))] : va_W), stW cy x0.1 x0.2, stW cy x1.1 x1.2, stW cy x2.1 x2.2, stW cy x3.1 x3.2, stW cy x4.1 x4.2, stW cy x5.1 x5.2] : List va_W).flatten sz) := by
  refine wl_ofI (cc := cX0_dropOldest) (maxL := 3) (ret := none) (by decide) rfl (Nat.le_of_ble_eq_true rfl) ?_
  intro p e s m below meth c ls A hx hb hr hts hown hlocks hml hnm hsz hAe hP hK hD hX hA hS hl
  have hl : lv_has ls 3 [(0, .ref h)] := hl
  have lkf11 := hts (.fieldLink RX0 11 "WireLamps$History" "states" "[LWireLamps$State;") (by decide +kernel)
  have lkf17 := hts (.fieldLink RX0 17 "WireLamps$History" "size" "I") (by decide +kernel)
  have in_X0 : ∀ w ∈ u_ws RX0 TX0 2, w ∈ wsX0_dropOldest := by decide +kernel
  refine lv_aload_n hx hb dX0_dropOldest_0 rfl (lv_at hl 0 rfl) ?_
  refine wl_getf (C := RX0) (T := TX0) (N := 2) (ci := 0) (v := .ref g) hx hb hts in_X0 hown hK hP 0 0 rfl rfl rfl 0 (by decide) lkf11 rfl rfl dX0_dropOldest_1 ?_
  refine lv_iconst (v := 0) hx hb dX0_dropOldest_4 (by decide) ?_
  refine wl_aald hx hb hK hP 1 0 rfl rfl 0 (by omega) (Nat.le_of_ble_eq_true rfl) dX0_dropOldest_5 ?_
  refine wl_topv (y := .ref (x0.1 0)) rfl ?_
  refine lv_astore_n (lv' := [(1, .ref (x0.1 0)), (0, .ref h)]) hx hb dX0_dropOldest_6 rfl hl (by decide) rfl (fun ls hl => ?_)
  refine lv_iconst (v := 1) hx hb dX0_dropOldest_7 (by decide) ?_
  refine lv_istore_n (lv' := [(2, .int 1), (1, .ref (x0.1 0)), (0, .ref h)]) hx hb dX0_dropOldest_8 rfl hl (by decide) rfl (fun ls hl => ?_)
  refine lv_iload_n hx hb dX0_dropOldest_9 rfl (lv_at hl 0 rfl) ?_
  refine lv_bipush (v := 6) hx hb dX0_dropOldest_10 (by decide) ?_
  refine wl_icmp_ge (tgt := 35) hx hb 1 6 dX0_dropOldest_12 (by decide) (by omega) (by omega) (fun c1 => absurd c1 (by decide)) (fun c1 => ?_)
  refine lv_aload_n hx hb dX0_dropOldest_15 rfl (lv_at hl 2 rfl) ?_
  refine wl_getf (C := RX0) (T := TX0) (N := 2) (ci := 0) (v := .ref g) hx hb hts in_X0 hown hK hP 0 0 rfl rfl rfl 0 (by decide) lkf11 rfl rfl dX0_dropOldest_16 ?_
  refine lv_iload_n hx hb dX0_dropOldest_19 rfl (lv_at hl 0 rfl) ?_
  refine lv_iconst (v := 1) hx hb dX0_dropOldest_20 (by decide) ?_
  refine lv_isub hx hb dX0_dropOldest_21 ?_
  refine wl_top (y := nI 0) (pk_sub (a := 1) (b := 1) (by omega)) ?_
  refine lv_aload_n hx hb dX0_dropOldest_22 rfl (lv_at hl 2 rfl) ?_
  refine wl_getf (C := RX0) (T := TX0) (N := 2) (ci := 0) (v := .ref g) hx hb hts in_X0 hown hK hP 0 0 rfl rfl rfl 0 (by decide) lkf11 rfl rfl dX0_dropOldest_23 ?_
  refine lv_iload_n hx hb dX0_dropOldest_26 rfl (lv_at hl 0 rfl) ?_
  refine wl_aald hx hb hK hP 1 0 rfl rfl 1 (by omega) (Nat.le_of_ble_eq_true rfl) dX0_dropOldest_27 ?_
  refine wl_topv (y := .ref (x1.1 0)) rfl ?_
  refine wl_aast hx hb hK hP hD hS 1 0 3 0 rfl rfl rfl rfl 0 (by omega) (Nat.le_of_ble_eq_true rfl) dX0_dropOldest_28 (fun H locs hP hD hS => ?_)
  have hP : va_P D vwCl ([([(h, .inr (0, [.ref g, .int (nI 6)]))] : va_W), ([(g, .inl (cy 3, 6, (.inr (.inr (.inr (.inr (va_up (q_rf [x0, x1, x2, x3, x4, x5]) 0 (some (x1.1 0)))))))))] : va_W), stW cy x0.1 x0.2, stW cy x1.1 x1.2, stW cy x2.1 x2.2, stW cy x3.1 x3.2, stW cy x4.1 x4.2, stW cy x5.1 x5.2] : List va_W).flatten H := hP
  have hD : va_D A ([([(h, .inr (0, [.ref g, .int (nI 6)]))] : va_W), ([(g, .inl (cy 3, 6, (.inr (.inr (.inr (.inr (va_up (q_rf [x0, x1, x2, x3, x4, x5]) 0 (some (x1.1 0)))))))))] : va_W), stW cy x0.1 x0.2, stW cy x1.1 x1.2, stW cy x2.1 x2.2, stW cy x3.1 x3.2, stW cy x4.1 x4.2, stW cy x5.1 x5.2] : List va_W).flatten := hD
  refine lv_iinc (v := nI 2) (lv' := [(2, .int (nI 2)), (1, .ref (x0.1 0)), (0, .ref h)]) hx hb dX0_dropOldest_29 hl (k := 0) rfl (wl_inc 1) (by decide) rfl (fun ls hl => ?_)
  refine lv_goto (tgt := 9) hx hb dX0_dropOldest_32 (by decide) ?_
  refine lv_iload_n hx hb dX0_dropOldest_9 rfl (lv_at hl 0 rfl) ?_
  refine lv_bipush (v := 6) hx hb dX0_dropOldest_10 (by decide) ?_
  refine wl_icmp_ge (tgt := 35) hx hb 2 6 dX0_dropOldest_12 (by decide) (by omega) (by omega) (fun c2 => absurd c2 (by decide)) (fun c2 => ?_)
  refine lv_aload_n hx hb dX0_dropOldest_15 rfl (lv_at hl 2 rfl) ?_
  refine wl_getf (C := RX0) (T := TX0) (N := 2) (ci := 0) (v := .ref g) hx hb hts in_X0 hown hK hP 0 0 rfl rfl rfl 0 (by decide) lkf11 rfl rfl dX0_dropOldest_16 ?_
  refine lv_iload_n hx hb dX0_dropOldest_19 rfl (lv_at hl 0 rfl) ?_
  refine lv_iconst (v := 1) hx hb dX0_dropOldest_20 (by decide) ?_
  refine lv_isub hx hb dX0_dropOldest_21 ?_
  refine wl_top (y := nI 1) (pk_sub (a := 2) (b := 1) (by omega)) ?_
  refine lv_aload_n hx hb dX0_dropOldest_22 rfl (lv_at hl 2 rfl) ?_
  refine wl_getf (C := RX0) (T := TX0) (N := 2) (ci := 0) (v := .ref g) hx hb hts in_X0 hown hK hP 0 0 rfl rfl rfl 0 (by decide) lkf11 rfl rfl dX0_dropOldest_23 ?_
  refine lv_iload_n hx hb dX0_dropOldest_26 rfl (lv_at hl 0 rfl) ?_
  refine wl_aald hx hb hK hP 1 0 rfl rfl 2 (by omega) (Nat.le_of_ble_eq_true rfl) dX0_dropOldest_27 ?_
  refine wl_topv (y := .ref (x2.1 0)) rfl ?_
  refine wl_aast hx hb hK hP hD hS 1 0 4 0 rfl rfl rfl rfl 1 (by omega) (Nat.le_of_ble_eq_true rfl) dX0_dropOldest_28 (fun H locs hP hD hS => ?_)
  have hP : va_P D vwCl ([([(h, .inr (0, [.ref g, .int (nI 6)]))] : va_W), ([(g, .inl (cy 3, 6, (.inr (.inr (.inr (.inr (va_up (va_up (q_rf [x0, x1, x2, x3, x4, x5]) 0 (some (x1.1 0))) 1 (some (x2.1 0)))))))))] : va_W), stW cy x0.1 x0.2, stW cy x1.1 x1.2, stW cy x2.1 x2.2, stW cy x3.1 x3.2, stW cy x4.1 x4.2, stW cy x5.1 x5.2] : List va_W).flatten H := hP
  have hD : va_D A ([([(h, .inr (0, [.ref g, .int (nI 6)]))] : va_W), ([(g, .inl (cy 3, 6, (.inr (.inr (.inr (.inr (va_up (va_up (q_rf [x0, x1, x2, x3, x4, x5]) 0 (some (x1.1 0))) 1 (some (x2.1 0)))))))))] : va_W), stW cy x0.1 x0.2, stW cy x1.1 x1.2, stW cy x2.1 x2.2, stW cy x3.1 x3.2, stW cy x4.1 x4.2, stW cy x5.1 x5.2] : List va_W).flatten := hD
  refine lv_iinc (v := nI 3) (lv' := [(2, .int (nI 3)), (1, .ref (x0.1 0)), (0, .ref h)]) hx hb dX0_dropOldest_29 hl (k := 0) rfl (wl_inc 2) (by decide) rfl (fun ls hl => ?_)
  refine lv_goto (tgt := 9) hx hb dX0_dropOldest_32 (by decide) ?_
  refine lv_iload_n hx hb dX0_dropOldest_9 rfl (lv_at hl 0 rfl) ?_
  refine lv_bipush (v := 6) hx hb dX0_dropOldest_10 (by decide) ?_
  refine wl_icmp_ge (tgt := 35) hx hb 3 6 dX0_dropOldest_12 (by decide) (by omega) (by omega) (fun c3 => absurd c3 (by decide)) (fun c3 => ?_)
  refine lv_aload_n hx hb dX0_dropOldest_15 rfl (lv_at hl 2 rfl) ?_
  refine wl_getf (C := RX0) (T := TX0) (N := 2) (ci := 0) (v := .ref g) hx hb hts in_X0 hown hK hP 0 0 rfl rfl rfl 0 (by decide) lkf11 rfl rfl dX0_dropOldest_16 ?_
  refine lv_iload_n hx hb dX0_dropOldest_19 rfl (lv_at hl 0 rfl) ?_
  refine lv_iconst (v := 1) hx hb dX0_dropOldest_20 (by decide) ?_
  refine lv_isub hx hb dX0_dropOldest_21 ?_
  refine wl_top (y := nI 2) (pk_sub (a := 3) (b := 1) (by omega)) ?_
  refine lv_aload_n hx hb dX0_dropOldest_22 rfl (lv_at hl 2 rfl) ?_
  refine wl_getf (C := RX0) (T := TX0) (N := 2) (ci := 0) (v := .ref g) hx hb hts in_X0 hown hK hP 0 0 rfl rfl rfl 0 (by decide) lkf11 rfl rfl dX0_dropOldest_23 ?_
  refine lv_iload_n hx hb dX0_dropOldest_26 rfl (lv_at hl 0 rfl) ?_
  refine wl_aald hx hb hK hP 1 0 rfl rfl 3 (by omega) (Nat.le_of_ble_eq_true rfl) dX0_dropOldest_27 ?_
  refine wl_topv (y := .ref (x3.1 0)) rfl ?_
  refine wl_aast hx hb hK hP hD hS 1 0 5 0 rfl rfl rfl rfl 2 (by omega) (Nat.le_of_ble_eq_true rfl) dX0_dropOldest_28 (fun H locs hP hD hS => ?_)
  have hP : va_P D vwCl ([([(h, .inr (0, [.ref g, .int (nI 6)]))] : va_W), ([(g, .inl (cy 3, 6, (.inr (.inr (.inr (.inr (va_up (va_up (va_up (q_rf [x0, x1, x2, x3, x4, x5]) 0 (some (x1.1 0))) 1 (some (x2.1 0))) 2 (some (x3.1 0)))))))))] : va_W), stW cy x0.1 x0.2, stW cy x1.1 x1.2, stW cy x2.1 x2.2, stW cy x3.1 x3.2, stW cy x4.1 x4.2, stW cy x5.1 x5.2] : List va_W).flatten H := hP
  have hD : va_D A ([([(h, .inr (0, [.ref g, .int (nI 6)]))] : va_W), ([(g, .inl (cy 3, 6, (.inr (.inr (.inr (.inr (va_up (va_up (va_up (q_rf [x0, x1, x2, x3, x4, x5]) 0 (some (x1.1 0))) 1 (some (x2.1 0))) 2 (some (x3.1 0)))))))))] : va_W), stW cy x0.1 x0.2, stW cy x1.1 x1.2, stW cy x2.1 x2.2, stW cy x3.1 x3.2, stW cy x4.1 x4.2, stW cy x5.1 x5.2] : List va_W).flatten := hD
  refine lv_iinc (v := nI 4) (lv' := [(2, .int (nI 4)), (1, .ref (x0.1 0)), (0, .ref h)]) hx hb dX0_dropOldest_29 hl (k := 0) rfl (wl_inc 3) (by decide) rfl (fun ls hl => ?_)
  refine lv_goto (tgt := 9) hx hb dX0_dropOldest_32 (by decide) ?_
  refine lv_iload_n hx hb dX0_dropOldest_9 rfl (lv_at hl 0 rfl) ?_
  refine lv_bipush (v := 6) hx hb dX0_dropOldest_10 (by decide) ?_
  refine wl_icmp_ge (tgt := 35) hx hb 4 6 dX0_dropOldest_12 (by decide) (by omega) (by omega) (fun c4 => absurd c4 (by decide)) (fun c4 => ?_)
  refine lv_aload_n hx hb dX0_dropOldest_15 rfl (lv_at hl 2 rfl) ?_
  refine wl_getf (C := RX0) (T := TX0) (N := 2) (ci := 0) (v := .ref g) hx hb hts in_X0 hown hK hP 0 0 rfl rfl rfl 0 (by decide) lkf11 rfl rfl dX0_dropOldest_16 ?_
  refine lv_iload_n hx hb dX0_dropOldest_19 rfl (lv_at hl 0 rfl) ?_
  refine lv_iconst (v := 1) hx hb dX0_dropOldest_20 (by decide) ?_
  refine lv_isub hx hb dX0_dropOldest_21 ?_
  refine wl_top (y := nI 3) (pk_sub (a := 4) (b := 1) (by omega)) ?_
  refine lv_aload_n hx hb dX0_dropOldest_22 rfl (lv_at hl 2 rfl) ?_
  refine wl_getf (C := RX0) (T := TX0) (N := 2) (ci := 0) (v := .ref g) hx hb hts in_X0 hown hK hP 0 0 rfl rfl rfl 0 (by decide) lkf11 rfl rfl dX0_dropOldest_23 ?_
  refine lv_iload_n hx hb dX0_dropOldest_26 rfl (lv_at hl 0 rfl) ?_
  refine wl_aald hx hb hK hP 1 0 rfl rfl 4 (by omega) (Nat.le_of_ble_eq_true rfl) dX0_dropOldest_27 ?_
  refine wl_topv (y := .ref (x4.1 0)) rfl ?_
  refine wl_aast hx hb hK hP hD hS 1 0 6 0 rfl rfl rfl rfl 3 (by omega) (Nat.le_of_ble_eq_true rfl) dX0_dropOldest_28 (fun H locs hP hD hS => ?_)
  have hP : va_P D vwCl ([([(h, .inr (0, [.ref g, .int (nI 6)]))] : va_W), ([(g, .inl (cy 3, 6, (.inr (.inr (.inr (.inr (va_up (va_up (va_up (va_up (q_rf [x0, x1, x2, x3, x4, x5]) 0 (some (x1.1 0))) 1 (some (x2.1 0))) 2 (some (x3.1 0))) 3 (some (x4.1 0)))))))))] : va_W), stW cy x0.1 x0.2, stW cy x1.1 x1.2, stW cy x2.1 x2.2, stW cy x3.1 x3.2, stW cy x4.1 x4.2, stW cy x5.1 x5.2] : List va_W).flatten H := hP
  have hD : va_D A ([([(h, .inr (0, [.ref g, .int (nI 6)]))] : va_W), ([(g, .inl (cy 3, 6, (.inr (.inr (.inr (.inr (va_up (va_up (va_up (va_up (q_rf [x0, x1, x2, x3, x4, x5]) 0 (some (x1.1 0))) 1 (some (x2.1 0))) 2 (some (x3.1 0))) 3 (some (x4.1 0)))))))))] : va_W), stW cy x0.1 x0.2, stW cy x1.1 x1.2, stW cy x2.1 x2.2, stW cy x3.1 x3.2, stW cy x4.1 x4.2, stW cy x5.1 x5.2] : List va_W).flatten := hD
  refine lv_iinc (v := nI 5) (lv' := [(2, .int (nI 5)), (1, .ref (x0.1 0)), (0, .ref h)]) hx hb dX0_dropOldest_29 hl (k := 0) rfl (wl_inc 4) (by decide) rfl (fun ls hl => ?_)
  refine lv_goto (tgt := 9) hx hb dX0_dropOldest_32 (by decide) ?_
  refine lv_iload_n hx hb dX0_dropOldest_9 rfl (lv_at hl 0 rfl) ?_
  refine lv_bipush (v := 6) hx hb dX0_dropOldest_10 (by decide) ?_
  refine wl_icmp_ge (tgt := 35) hx hb 5 6 dX0_dropOldest_12 (by decide) (by omega) (by omega) (fun c5 => absurd c5 (by decide)) (fun c5 => ?_)
  refine lv_aload_n hx hb dX0_dropOldest_15 rfl (lv_at hl 2 rfl) ?_
  refine wl_getf (C := RX0) (T := TX0) (N := 2) (ci := 0) (v := .ref g) hx hb hts in_X0 hown hK hP 0 0 rfl rfl rfl 0 (by decide) lkf11 rfl rfl dX0_dropOldest_16 ?_
  refine lv_iload_n hx hb dX0_dropOldest_19 rfl (lv_at hl 0 rfl) ?_
  refine lv_iconst (v := 1) hx hb dX0_dropOldest_20 (by decide) ?_
  refine lv_isub hx hb dX0_dropOldest_21 ?_
  refine wl_top (y := nI 4) (pk_sub (a := 5) (b := 1) (by omega)) ?_
  refine lv_aload_n hx hb dX0_dropOldest_22 rfl (lv_at hl 2 rfl) ?_
  refine wl_getf (C := RX0) (T := TX0) (N := 2) (ci := 0) (v := .ref g) hx hb hts in_X0 hown hK hP 0 0 rfl rfl rfl 0 (by decide) lkf11 rfl rfl dX0_dropOldest_23 ?_
  refine lv_iload_n hx hb dX0_dropOldest_26 rfl (lv_at hl 0 rfl) ?_
  refine wl_aald hx hb hK hP 1 0 rfl rfl 5 (by omega) (Nat.le_of_ble_eq_true rfl) dX0_dropOldest_27 ?_
  refine wl_topv (y := .ref (x5.1 0)) rfl ?_
  refine wl_aast hx hb hK hP hD hS 1 0 7 0 rfl rfl rfl rfl 4 (by omega) (Nat.le_of_ble_eq_true rfl) dX0_dropOldest_28 (fun H locs hP hD hS => ?_)
  have hP : va_P D vwCl ([([(h, .inr (0, [.ref g, .int (nI 6)]))] : va_W), ([(g, .inl (cy 3, 6, (.inr (.inr (.inr (.inr (va_up (va_up (va_up (va_up (va_up (q_rf [x0, x1, x2, x3, x4, x5]) 0 (some (x1.1 0))) 1 (some (x2.1 0))) 2 (some (x3.1 0))) 3 (some (x4.1 0))) 4 (some (x5.1 0)))))))))] : va_W), stW cy x0.1 x0.2, stW cy x1.1 x1.2, stW cy x2.1 x2.2, stW cy x3.1 x3.2, stW cy x4.1 x4.2, stW cy x5.1 x5.2] : List va_W).flatten H := hP
  have hD : va_D A ([([(h, .inr (0, [.ref g, .int (nI 6)]))] : va_W), ([(g, .inl (cy 3, 6, (.inr (.inr (.inr (.inr (va_up (va_up (va_up (va_up (va_up (q_rf [x0, x1, x2, x3, x4, x5]) 0 (some (x1.1 0))) 1 (some (x2.1 0))) 2 (some (x3.1 0))) 3 (some (x4.1 0))) 4 (some (x5.1 0)))))))))] : va_W), stW cy x0.1 x0.2, stW cy x1.1 x1.2, stW cy x2.1 x2.2, stW cy x3.1 x3.2, stW cy x4.1 x4.2, stW cy x5.1 x5.2] : List va_W).flatten := hD
  refine lv_iinc (v := nI 6) (lv' := [(2, .int (nI 6)), (1, .ref (x0.1 0)), (0, .ref h)]) hx hb dX0_dropOldest_29 hl (k := 0) rfl (wl_inc 5) (by decide) rfl (fun ls hl => ?_)
  refine lv_goto (tgt := 9) hx hb dX0_dropOldest_32 (by decide) ?_
  refine lv_iload_n hx hb dX0_dropOldest_9 rfl (lv_at hl 0 rfl) ?_
  refine lv_bipush (v := 6) hx hb dX0_dropOldest_10 (by decide) ?_
  refine wl_icmp_ge (tgt := 35) hx hb 6 6 dX0_dropOldest_12 (by decide) (by omega) (by omega) (fun c6 => ?_) (fun c6 => absurd c6 (by decide))
  refine lv_aload_n hx hb dX0_dropOldest_35 rfl (lv_at hl 2 rfl) ?_
  refine wl_getf (C := RX0) (T := TX0) (N := 2) (ci := 0) (v := .ref g) hx hb hts in_X0 hown hK hP 0 0 rfl rfl rfl 0 (by decide) lkf11 rfl rfl dX0_dropOldest_36 ?_
  refine lv_iconst (v := 5) hx hb dX0_dropOldest_39 (by decide) ?_
  refine lv_aload_n hx hb dX0_dropOldest_40 rfl (lv_at hl 1 rfl) ?_
  refine wl_aast hx hb hK hP hD hS 1 0 2 0 rfl rfl rfl rfl 5 (by omega) (Nat.le_of_ble_eq_true rfl) dX0_dropOldest_41 (fun H locs hP hD hS => ?_)
  have hP : va_P D vwCl ([([(h, .inr (0, [.ref g, .int (nI 6)]))] : va_W), ([(g, .inl (cy 3, 6, (.inr (.inr (.inr (.inr (va_up (va_up (va_up (va_up (va_up (va_up (q_rf [x0, x1, x2, x3, x4, x5]) 0 (some (x1.1 0))) 1 (some (x2.1 0))) 2 (some (x3.1 0))) 3 (some (x4.1 0))) 4 (some (x5.1 0))) 5 (some (x0.1 0)))))))))] : va_W), stW cy x0.1 x0.2, stW cy x1.1 x1.2, stW cy x2.1 x2.2, stW cy x3.1 x3.2, stW cy x4.1 x4.2, stW cy x5.1 x5.2] : List va_W).flatten H := hP
  have hD : va_D A ([([(h, .inr (0, [.ref g, .int (nI 6)]))] : va_W), ([(g, .inl (cy 3, 6, (.inr (.inr (.inr (.inr (va_up (va_up (va_up (va_up (va_up (va_up (q_rf [x0, x1, x2, x3, x4, x5]) 0 (some (x1.1 0))) 1 (some (x2.1 0))) 2 (some (x3.1 0))) 3 (some (x4.1 0))) 4 (some (x5.1 0))) 5 (some (x0.1 0)))))))))] : va_W), stW cy x0.1 x0.2, stW cy x1.1 x1.2, stW cy x2.1 x2.2, stW cy x3.1 x3.2, stW cy x4.1 x4.2, stW cy x5.1 x5.2] : List va_W).flatten := hD
  refine lv_aload_n hx hb dX0_dropOldest_42 rfl (lv_at hl 2 rfl) ?_
  refine lv_iconst (v := 5) hx hb dX0_dropOldest_43 (by decide) ?_
  refine wl_putf (C := RX0) (T := TX0) (N := 2) (ci := 0) (v := .int 5) hx hb hts in_X0 tyX0 tyX0_ok nmX0 hown hK hP hD hS 0 0 rfl rfl rfl 1 (by decide) lkf17 rfl rfl rfl rfl (Nat.le_of_ble_eq_true rfl) dX0_dropOldest_44 (fun H locs hP hD hS => ?_)
  have hP : va_P D vwCl ([([(h, .inr (0, [.ref g, .int 5]))] : va_W), ([(g, .inl (cy 3, 6, (.inr (.inr (.inr (.inr (va_up (va_up (va_up (va_up (va_up (va_up (q_rf [x0, x1, x2, x3, x4, x5]) 0 (some (x1.1 0))) 1 (some (x2.1 0))) 2 (some (x3.1 0))) 3 (some (x4.1 0))) 4 (some (x5.1 0))) 5 (some (x0.1 0)))))))))] : va_W), stW cy x0.1 x0.2, stW cy x1.1 x1.2, stW cy x2.1 x2.2, stW cy x3.1 x3.2, stW cy x4.1 x4.2, stW cy x5.1 x5.2] : List va_W).flatten H := hP
  have hD : va_D A ([([(h, .inr (0, [.ref g, .int 5]))] : va_W), ([(g, .inl (cy 3, 6, (.inr (.inr (.inr (.inr (va_up (va_up (va_up (va_up (va_up (va_up (q_rf [x0, x1, x2, x3, x4, x5]) 0 (some (x1.1 0))) 1 (some (x2.1 0))) 2 (some (x3.1 0))) 3 (some (x4.1 0))) 4 (some (x5.1 0))) 5 (some (x0.1 0)))))))))] : va_W), stW cy x0.1 x0.2, stW cy x1.1 x1.2, stW cy x2.1 x2.2, stW cy x3.1 x3.2, stW cy x4.1 x4.2, stW cy x5.1 x5.2] : List va_W).flatten := hD
  rw [q_rot6 x0 x1 x2 x3 x4 x5] at hP hD
  have hP : va_P D vwCl ([([(h, .inr (0, [.ref g, .int (nI 5)]))] : va_W), ([(g, .inl (cy 3, 6, (.inr (.inr (.inr (.inr (q_rf [x1, x2, x3, x4, x5, x0])))))))] : va_W), stW cy x0.1 x0.2, stW cy x1.1 x1.2, stW cy x2.1 x2.2, stW cy x3.1 x3.2, stW cy x4.1 x4.2, stW cy x5.1 x5.2] : List va_W).flatten H := hP
  have hD : va_D A ([([(h, .inr (0, [.ref g, .int (nI 5)]))] : va_W), ([(g, .inl (cy 3, 6, (.inr (.inr (.inr (.inr (q_rf [x1, x2, x3, x4, x5, x0])))))))] : va_W), stW cy x0.1 x0.2, stW cy x1.1 x1.2, stW cy x2.1 x2.2, stW cy x3.1 x3.2, stW cy x4.1 x4.2, stW cy x5.1 x5.2] : List va_W).flatten := hD
  exact wl_Rv (bs := [([(h, .inr (0, [.ref g, .int (nI 5)]))] : va_W), ([(g, .inl (cy 3, 6, (.inr (.inr (.inr (.inr (q_rf [x1, x2, x3, x4, x5, x0])))))))] : va_W), stW cy x0.1 x0.2, stW cy x1.1 x1.2, stW cy x2.1 x2.2, stW cy x3.1 x3.2, stW cy x4.1 x4.2, stW cy x5.1 x5.2]) hx hb hr hlocks hAe hP hD hS (by rfl) dX0_dropOldest_47
