/-! History.save, by cases -/
set_option maxHeartbeats 4000000 in
set_option maxRecDepth 100000 in
theorem m_X0_save_A (l : Launch) (D : va_G) (cy : Nat → ClassId) (h g : Nat) (x0 x1 x2 x3 x4 x5 : ((Nat → Nat) × (Nat → Nat → Int32))) (a : Nat → Nat) (v : Nat → Nat → Int32) (sz : Nat)  : Met l yX0_save wsX0_save ({ frames := 2, cells := 8, slots := 176, locals := 45 } : Room) (wl_ic D cy (wl_E) [([(h, .inr (0, [.ref g, .int (nI 6)]))] : va_W), ([(g, .inl (cy 3, 6, (.inr (.inr (.inr (.inr (q_rf [x0, x1, x2, x3, x4, x5])))))))] : va_W), stW cy x0.1 x0.2, stW cy x1.1 x1.2, stW cy x2.1 x2.2, stW cy x3.1 x3.2, stW cy x4.1 x4.2, stW cy x5.1 x5.2, stW cy a v] sz [.ref h, .ref (a 0)]) (va_Qv (fun (bs : List va_W) => bs = [([(h, .inr (0, [.ref g, .int (nI 6)]))] : va_W), ([(g, .inl (cy 3, 6, (.inr (.inr (.inr (.inr (q_rf [x1, x2, x3, x4, x5, x0])))))))] : va_W), stW cy x0.1 v, stW cy x1.1 x1.2, stW cy x2.1 x2.2, stW cy x3.1 x3.2, stW cy x4.1 x4.2, stW cy x5.1 x5.2, stW cy a v]) (wl_ib D [([(h, .inr (0, [.ref g, .int (nI 6)]))] : va_W), ([(g, .inl (cy 3, 6, (.inr (.inr (.inr (.inr (q_rf [x0, x1, x2, x3, x4, x5])))))))] : va_W), stW cy x0.1 x0.2, stW cy x1.1 x1.2, stW cy x2.1 x2.2, stW cy x3.1 x3.2, stW cy x4.1 x4.2, stW cy x5.1 x5.2, stW cy a v] sz) (va_A ([([(h, .inr (0, [.ref g, .int (nI 6)]))] : va_W), ([(g, .inl (cy 3, 6, (.inr (.inr (.inr (.inr (q_rf [x0, x1, x2, x3, x4, x5])))))))] : va_W), stW cy x0.1 x0.2, stW cy x1.1 x1.2, stW cy x2.1 x2.2, stW cy x3.1 x3.2, stW cy x4.1 x4.2, stW cy x5.1 x5.2, stW cy a v] : List va_W).flatten sz)) 8 176 (va_A ([([(h, .inr (0, [.ref g, .int (nI 6)]))] : va_W), ([(g, .inl (cy 3, 6, (.inr (.inr (.inr (.inr (q_rf [x0, x1, x2, x3, x4, x5])))))))] : va_W), stW cy x0.1 x0.2, stW cy x1.1 x1.2, stW cy x2.1 x2.2, stW cy x3.1 x3.2, stW cy x4.1 x4.2, stW cy x5.1 x5.2, stW cy a v] : List va_W).flatten sz) := by
  refine wl_ofI (cc := cX0_save) (maxL := 3) (ret := none) (by decide) rfl (Nat.le_of_ble_eq_true rfl) ?_
  intro p e s m below meth c ls A hx hb hr hts hown hlocks hml hnm hsz hAe hP hK hD hX hA hS hl
  have hl : lv_has ls 3 [(0, .ref h), (1, .ref (a 0))] := hl
  have lkf11 := hts (.fieldLink RX0 11 "WireLamps$History" "states" "[LWireLamps$State;") (by decide +kernel)
  have lkf17 := hts (.fieldLink RX0 17 "WireLamps$History" "size" "I") (by decide +kernel)
  have in_X0 : ∀ w ∈ u_ws RX0 TX0 2, w ∈ wsX0_save := by decide +kernel
  refine lv_aload_n hx hb dX0_save_0 rfl (lv_at hl 0 rfl) ?_
  refine wl_getf (C := RX0) (T := TX0) (N := 2) (ci := 0) (v := .int (nI 6)) hx hb hts in_X0 hown hK hP 0 0 rfl rfl rfl 1 (by decide) lkf17 rfl rfl dX0_save_1 ?_
  refine lv_bipush (v := 6) hx hb dX0_save_4 (by decide) ?_
  refine wl_icmp_lt (tgt := 13) hx hb 6 6 dX0_save_6 (by decide) (by omega) (by omega) (fun c1 => absurd c1 (by decide)) (fun c1 => ?_)
  refine lv_aload_n hx hb dX0_save_9 rfl (lv_at hl 0 rfl) ?_
  refine wl_iVv (As := []) (rest := []) (bsC := [([(h, .inr (0, [.ref g, .int (nI 6)]))] : va_W), ([(g, .inl (cy 3, 6, (.inr (.inr (.inr (.inr (q_rf [x0, x1, x2, x3, x4, x5])))))))] : va_W), stW cy x0.1 x0.2, stW cy x1.1 x1.2, stW cy x2.1 x2.2, stW cy x3.1 x3.2, stW cy x4.1 x4.2, stW cy x5.1 x5.2]) (bsR := [stW cy a v]) ⟨hx, hb, hml, hown, hts⟩ (m_X0_dropOldest l D cy h g x0 x1 x2 x3 x4 x5 s.heap.size ) (cwV 0 hts gX0_save_X0_dropOldest rfl rfl rfl (by decide +kernel) ⟨Nat.le_of_ble_eq_true rfl, Nat.le_of_ble_eq_true rfl⟩) wl_xT (fun _ _ _ => trivial) hK hP hD hS hA rfl rfl rfl rfl rfl hl.1 rfl (Nat.le_of_ble_eq_true rfl) dX0_save_10 ⟨Nat.le_of_ble_eq_true rfl, Nat.le_of_ble_eq_true rfl⟩ (fun bs2 H locs e3 _ _ hP hD hS => ?_)
  have e3 : bs2 = [([(h, .inr (0, [.ref g, .int (nI 5)]))] : va_W), ([(g, .inl (cy 3, 6, (.inr (.inr (.inr (.inr (q_rf [x1, x2, x3, x4, x5, x0])))))))] : va_W), stW cy x0.1 x0.2, stW cy x1.1 x1.2, stW cy x2.1 x2.2, stW cy x3.1 x3.2, stW cy x4.1 x4.2, stW cy x5.1 x5.2] := e3
  subst e3
  have hP : va_P D vwCl ([([(h, .inr (0, [.ref g, .int (nI 5)]))] : va_W), ([(g, .inl (cy 3, 6, (.inr (.inr (.inr (.inr (q_rf [x1, x2, x3, x4, x5, x0])))))))] : va_W), stW cy x0.1 x0.2, stW cy x1.1 x1.2, stW cy x2.1 x2.2, stW cy x3.1 x3.2, stW cy x4.1 x4.2, stW cy x5.1 x5.2, stW cy a v] : List va_W).flatten H := hP
  have hD : va_D A ([([(h, .inr (0, [.ref g, .int (nI 5)]))] : va_W), ([(g, .inl (cy 3, 6, (.inr (.inr (.inr (.inr (q_rf [x1, x2, x3, x4, x5, x0])))))))] : va_W), stW cy x0.1 x0.2, stW cy x1.1 x1.2, stW cy x2.1 x2.2, stW cy x3.1 x3.2, stW cy x4.1 x4.2, stW cy x5.1 x5.2, stW cy a v] : List va_W).flatten := hD
  refine lv_aload_n hx hb dX0_save_13 rfl (lv_at hl 0 rfl) ?_
  refine wl_getf (C := RX0) (T := TX0) (N := 2) (ci := 0) (v := .int (nI 5)) hx hb hts in_X0 hown hK hP 0 0 rfl rfl rfl 1 (by decide) lkf17 rfl rfl dX0_save_14 ?_
  refine wl_if_lt (tgt := 29) hx hb 5 dX0_save_17 (by decide) (by omega) ?_
  refine lv_aload_n hx hb dX0_save_20 rfl (lv_at hl 0 rfl) ?_
  refine wl_getf (C := RX0) (T := TX0) (N := 2) (ci := 0) (v := .int (nI 5)) hx hb hts in_X0 hown hK hP 0 0 rfl rfl rfl 1 (by decide) lkf17 rfl rfl dX0_save_21 ?_
  refine lv_bipush (v := 6) hx hb dX0_save_24 (by decide) ?_
  refine wl_icmp_lt (tgt := 30) hx hb 5 6 dX0_save_26 (by decide) (by omega) (by omega) (fun c5 => ?_) (fun c5 => absurd c5 (by decide))
  refine lv_aload_n hx hb dX0_save_30 rfl (lv_at hl 0 rfl) ?_
  refine wl_getf (C := RX0) (T := TX0) (N := 2) (ci := 0) (v := .ref g) hx hb hts in_X0 hown hK hP 0 0 rfl rfl rfl 0 (by decide) lkf11 rfl rfl dX0_save_31 ?_
  refine lv_aload_n hx hb dX0_save_34 rfl (lv_at hl 0 rfl) ?_
  refine wl_getf (C := RX0) (T := TX0) (N := 2) (ci := 0) (v := .int (nI 5)) hx hb hts in_X0 hown hK hP 0 0 rfl rfl rfl 1 (by decide) lkf17 rfl rfl dX0_save_35 ?_
  refine wl_aald hx hb hK hP 1 0 rfl rfl 5 (by omega) (Nat.le_of_ble_eq_true rfl) dX0_save_38 ?_
  refine wl_topv (y := .ref (x0.1 0)) rfl ?_
  refine lv_astore_n (lv' := [(2, .ref (x0.1 0)), (0, .ref h), (1, .ref (a 0))]) hx hb dX0_save_39 rfl hl (by decide) rfl (fun ls hl => ?_)
  refine lv_aload_n hx hb dX0_save_40 rfl (lv_at hl 0 rfl) ?_
  refine lv_ifnonnull (tgt := 62) hx hb dX0_save_41 (by decide) ?_
  refine lv_aload_n hx hb dX0_save_62 rfl (lv_at hl 0 rfl) ?_
  refine lv_aload_n hx hb dX0_save_63 rfl (lv_at hl 2 rfl) ?_
  have hP := wl_Po (bs' := [stW cy x0.1 x0.2, stW cy a v, ([(h, .inr (0, [.ref g, .int (nI 5)]))] : va_W), ([(g, .inl (cy 3, 6, (.inr (.inr (.inr (.inr (q_rf [x1, x2, x3, x4, x5, x0])))))))] : va_W), stW cy x1.1 x1.2, stW cy x2.1 x2.2, stW cy x3.1 x3.2, stW cy x4.1 x4.2, stW cy x5.1 x5.2]) [2, 8, 0, 1, 3, 4, 5, 6, 7] 9 rfl (by decide) rfl hP
  have hD := wl_Do (bs' := [stW cy x0.1 x0.2, stW cy a v, ([(h, .inr (0, [.ref g, .int (nI 5)]))] : va_W), ([(g, .inl (cy 3, 6, (.inr (.inr (.inr (.inr (q_rf [x1, x2, x3, x4, x5, x0])))))))] : va_W), stW cy x1.1 x1.2, stW cy x2.1 x2.2, stW cy x3.1 x3.2, stW cy x4.1 x4.2, stW cy x5.1 x5.2]) [2, 8, 0, 1, 3, 4, 5, 6, 7] 9 rfl (by decide) rfl hD
  refine wl_iVv (As := [.ref (a 0)]) (rest := []) (bsC := [stW cy x0.1 x0.2, stW cy a v]) (bsR := [([(h, .inr (0, [.ref g, .int (nI 5)]))] : va_W), ([(g, .inl (cy 3, 6, (.inr (.inr (.inr (.inr (q_rf [x1, x2, x3, x4, x5, x0])))))))] : va_W), stW cy x1.1 x1.2, stW cy x2.1 x2.2, stW cy x3.1 x3.2, stW cy x4.1 x4.2, stW cy x5.1 x5.2]) ⟨hx, hb, hml, hown, hts⟩ (m_X2_copyFrom l D cy x0.1 x0.2 a v H.size ) (cwV 1 hts gX0_save_X2_copyFrom rfl rfl rfl (by decide +kernel) ⟨Nat.le_of_ble_eq_true rfl, Nat.le_of_ble_eq_true rfl⟩) wl_xT (fun _ _ _ => trivial) hK hP hD hS hA rfl rfl rfl rfl rfl hl.1 rfl (Nat.le_of_ble_eq_true rfl) dX0_save_64 ⟨Nat.le_of_ble_eq_true rfl, Nat.le_of_ble_eq_true rfl⟩ (fun bs6 H locs e7 _ _ hP hD hS => ?_)
  have e7 : bs6 = [stW cy x0.1 v, stW cy a v] := e7
  subst e7
  have hP : va_P D vwCl ([stW cy x0.1 v, stW cy a v, ([(h, .inr (0, [.ref g, .int (nI 5)]))] : va_W), ([(g, .inl (cy 3, 6, (.inr (.inr (.inr (.inr (q_rf [x1, x2, x3, x4, x5, x0])))))))] : va_W), stW cy x1.1 x1.2, stW cy x2.1 x2.2, stW cy x3.1 x3.2, stW cy x4.1 x4.2, stW cy x5.1 x5.2] : List va_W).flatten H := hP
  have hD : va_D A ([stW cy x0.1 v, stW cy a v, ([(h, .inr (0, [.ref g, .int (nI 5)]))] : va_W), ([(g, .inl (cy 3, 6, (.inr (.inr (.inr (.inr (q_rf [x1, x2, x3, x4, x5, x0])))))))] : va_W), stW cy x1.1 x1.2, stW cy x2.1 x2.2, stW cy x3.1 x3.2, stW cy x4.1 x4.2, stW cy x5.1 x5.2] : List va_W).flatten := hD
  have hP := wl_Po (bs' := [([(h, .inr (0, [.ref g, .int (nI 5)]))] : va_W), ([(g, .inl (cy 3, 6, (.inr (.inr (.inr (.inr (q_rf [x1, x2, x3, x4, x5, x0])))))))] : va_W), stW cy x0.1 v, stW cy x1.1 x1.2, stW cy x2.1 x2.2, stW cy x3.1 x3.2, stW cy x4.1 x4.2, stW cy x5.1 x5.2, stW cy a v]) [2, 3, 0, 4, 5, 6, 7, 8, 1] 9 rfl (by decide) rfl hP
  have hD := wl_Do (bs' := [([(h, .inr (0, [.ref g, .int (nI 5)]))] : va_W), ([(g, .inl (cy 3, 6, (.inr (.inr (.inr (.inr (q_rf [x1, x2, x3, x4, x5, x0])))))))] : va_W), stW cy x0.1 v, stW cy x1.1 x1.2, stW cy x2.1 x2.2, stW cy x3.1 x3.2, stW cy x4.1 x4.2, stW cy x5.1 x5.2, stW cy a v]) [2, 3, 0, 4, 5, 6, 7, 8, 1] 9 rfl (by decide) rfl hD
  refine lv_aload_n hx hb dX0_save_67 rfl (lv_at hl 1 rfl) ?_
  refine lv_dup hx hb dX0_save_68 rfl ?_
  refine wl_getf (C := RX0) (T := TX0) (N := 2) (ci := 0) (v := .int (nI 5)) hx hb hts in_X0 hown hK hP 0 0 rfl rfl rfl 1 (by decide) lkf17 rfl rfl dX0_save_69 ?_
  refine lv_iconst (v := 1) hx hb dX0_save_72 (by decide) ?_
  refine lv_iadd hx hb dX0_save_73 ?_
  refine wl_top (y := nI 6) (nI_add 5 1) ?_
  refine wl_putf (C := RX0) (T := TX0) (N := 2) (ci := 0) (v := .int (nI 6)) hx hb hts in_X0 tyX0 tyX0_ok nmX0 hown hK hP hD hS 0 0 rfl rfl rfl 1 (by decide) lkf17 rfl rfl rfl rfl (Nat.le_of_ble_eq_true rfl) dX0_save_74 (fun H locs hP hD hS => ?_)
  have hP : va_P D vwCl ([([(h, .inr (0, [.ref g, .int (nI 6)]))] : va_W), ([(g, .inl (cy 3, 6, (.inr (.inr (.inr (.inr (q_rf [x1, x2, x3, x4, x5, x0])))))))] : va_W), stW cy x0.1 v, stW cy x1.1 x1.2, stW cy x2.1 x2.2, stW cy x3.1 x3.2, stW cy x4.1 x4.2, stW cy x5.1 x5.2, stW cy a v] : List va_W).flatten H := hP
  have hD : va_D A ([([(h, .inr (0, [.ref g, .int (nI 6)]))] : va_W), ([(g, .inl (cy 3, 6, (.inr (.inr (.inr (.inr (q_rf [x1, x2, x3, x4, x5, x0])))))))] : va_W), stW cy x0.1 v, stW cy x1.1 x1.2, stW cy x2.1 x2.2, stW cy x3.1 x3.2, stW cy x4.1 x4.2, stW cy x5.1 x5.2, stW cy a v] : List va_W).flatten := hD
  refine W.widen (k := 8) (n := 176) (by omega) (by omega) ?_
  exact wl_Rv (bs := [([(h, .inr (0, [.ref g, .int (nI 6)]))] : va_W), ([(g, .inl (cy 3, 6, (.inr (.inr (.inr (.inr (q_rf [x1, x2, x3, x4, x5, x0])))))))] : va_W), stW cy x0.1 v, stW cy x1.1 x1.2, stW cy x2.1 x2.2, stW cy x3.1 x3.2, stW cy x4.1 x4.2, stW cy x5.1 x5.2, stW cy a v]) hx hb hr hlocks hAe hP hD hS (by rfl) dX0_save_77
set_option maxHeartbeats 4000000 in
set_option maxRecDepth 100000 in
theorem m_X0_save_B (l : Launch) (D : va_G) (cy : Nat → ClassId) (h g : Nat) (f : Nat → Option Nat) (z : Nat) (P1 P2 : va_W) (b : Nat → Nat) (w : Nat → Nat → Int32) (a : Nat → Nat) (v : Nat → Nat → Int32) (sz : Nat) (hz : z < 6) (hf : f z = some (b 0)) : Met l yX0_save wsX0_save ({ frames := 2, cells := 8, slots := 176, locals := 45 } : Room) (wl_ic D cy (wl_E) [([(h, .inr (0, [.ref g, .int (nI z)]))] : va_W), ([(g, .inl (cy 3, 6, (.inr (.inr (.inr (.inr f))))))] : va_W), P1, stW cy b w, P2, stW cy a v] sz [.ref h, .ref (a 0)]) (va_Qv (fun (bs : List va_W) => bs = [([(h, .inr (0, [.ref g, .int (nI (z + 1))]))] : va_W), ([(g, .inl (cy 3, 6, (.inr (.inr (.inr (.inr f))))))] : va_W), P1, stW cy b v, P2, stW cy a v]) (wl_ib D [([(h, .inr (0, [.ref g, .int (nI z)]))] : va_W), ([(g, .inl (cy 3, 6, (.inr (.inr (.inr (.inr f))))))] : va_W), P1, stW cy b w, P2, stW cy a v] sz) (va_A ([([(h, .inr (0, [.ref g, .int (nI z)]))] : va_W), ([(g, .inl (cy 3, 6, (.inr (.inr (.inr (.inr f))))))] : va_W), P1, stW cy b w, P2, stW cy a v] : List va_W).flatten sz)) 8 176 (va_A ([([(h, .inr (0, [.ref g, .int (nI z)]))] : va_W), ([(g, .inl (cy 3, 6, (.inr (.inr (.inr (.inr f))))))] : va_W), P1, stW cy b w, P2, stW cy a v] : List va_W).flatten sz) := by
  refine wl_ofI (cc := cX0_save) (maxL := 3) (ret := none) (by decide) rfl (Nat.le_of_ble_eq_true rfl) ?_
  intro p e s m below meth c ls A hx hb hr hts hown hlocks hml hnm hsz hAe hP hK hD hX hA hS hl
  have hl : lv_has ls 3 [(0, .ref h), (1, .ref (a 0))] := hl
  have lkf11 := hts (.fieldLink RX0 11 "WireLamps$History" "states" "[LWireLamps$State;") (by decide +kernel)
  have lkf17 := hts (.fieldLink RX0 17 "WireLamps$History" "size" "I") (by decide +kernel)
  have in_X0 : ∀ w ∈ u_ws RX0 TX0 2, w ∈ wsX0_save := by decide +kernel
  refine lv_aload_n hx hb dX0_save_0 rfl (lv_at hl 0 rfl) ?_
  refine wl_getf (C := RX0) (T := TX0) (N := 2) (ci := 0) (v := .int (nI z)) hx hb hts in_X0 hown hK hP 0 0 rfl rfl rfl 1 (by decide) lkf17 rfl rfl dX0_save_1 ?_
  refine lv_bipush (v := 6) hx hb dX0_save_4 (by decide) ?_
  refine wl_icmp_lt (tgt := 13) hx hb z 6 dX0_save_6 (by decide) (by omega) (by omega) (fun c1 => ?_) (fun c1 => absurd c1 (by omega))
  refine lv_aload_n hx hb dX0_save_13 rfl (lv_at hl 0 rfl) ?_
  refine wl_getf (C := RX0) (T := TX0) (N := 2) (ci := 0) (v := .int (nI z)) hx hb hts in_X0 hown hK hP 0 0 rfl rfl rfl 1 (by decide) lkf17 rfl rfl dX0_save_14 ?_
  refine wl_if_lt (tgt := 29) hx hb z dX0_save_17 (by decide) (by omega) ?_
  refine lv_aload_n hx hb dX0_save_20 rfl (lv_at hl 0 rfl) ?_
  refine wl_getf (C := RX0) (T := TX0) (N := 2) (ci := 0) (v := .int (nI z)) hx hb hts in_X0 hown hK hP 0 0 rfl rfl rfl 1 (by decide) lkf17 rfl rfl dX0_save_21 ?_
  refine lv_bipush (v := 6) hx hb dX0_save_24 (by decide) ?_
  refine wl_icmp_lt (tgt := 30) hx hb z 6 dX0_save_26 (by decide) (by omega) (by omega) (fun c3 => ?_) (fun c3 => absurd c3 (by omega))
  refine lv_aload_n hx hb dX0_save_30 rfl (lv_at hl 0 rfl) ?_
  refine wl_getf (C := RX0) (T := TX0) (N := 2) (ci := 0) (v := .ref g) hx hb hts in_X0 hown hK hP 0 0 rfl rfl rfl 0 (by decide) lkf11 rfl rfl dX0_save_31 ?_
  refine lv_aload_n hx hb dX0_save_34 rfl (lv_at hl 0 rfl) ?_
  refine wl_getf (C := RX0) (T := TX0) (N := 2) (ci := 0) (v := .int (nI z)) hx hb hts in_X0 hown hK hP 0 0 rfl rfl rfl 1 (by decide) lkf17 rfl rfl dX0_save_35 ?_
  refine wl_aald hx hb hK hP 1 0 rfl rfl z (by omega) (Nat.le_of_ble_eq_true rfl) dX0_save_38 ?_
  refine wl_topv (y := .ref (b 0)) (by rw [hf]; rfl) ?_
  refine lv_astore_n (lv' := [(2, .ref (b 0)), (0, .ref h), (1, .ref (a 0))]) hx hb dX0_save_39 rfl hl (by decide) rfl (fun ls hl => ?_)
  refine lv_aload_n hx hb dX0_save_40 rfl (lv_at hl 0 rfl) ?_
  refine lv_ifnonnull (tgt := 62) hx hb dX0_save_41 (by decide) ?_
  refine lv_aload_n hx hb dX0_save_62 rfl (lv_at hl 0 rfl) ?_
  refine lv_aload_n hx hb dX0_save_63 rfl (lv_at hl 2 rfl) ?_
  have hP := wl_Po (bs' := [stW cy b w, stW cy a v, ([(h, .inr (0, [.ref g, .int (nI z)]))] : va_W), ([(g, .inl (cy 3, 6, (.inr (.inr (.inr (.inr f))))))] : va_W), P1, P2]) [3, 5, 0, 1, 2, 4] 6 rfl (by decide) rfl hP
  have hD := wl_Do (bs' := [stW cy b w, stW cy a v, ([(h, .inr (0, [.ref g, .int (nI z)]))] : va_W), ([(g, .inl (cy 3, 6, (.inr (.inr (.inr (.inr f))))))] : va_W), P1, P2]) [3, 5, 0, 1, 2, 4] 6 rfl (by decide) rfl hD
  refine wl_iVv (As := [.ref (a 0)]) (rest := []) (bsC := [stW cy b w, stW cy a v]) (bsR := [([(h, .inr (0, [.ref g, .int (nI z)]))] : va_W), ([(g, .inl (cy 3, 6, (.inr (.inr (.inr (.inr f))))))] : va_W), P1, P2]) ⟨hx, hb, hml, hown, hts⟩ (m_X2_copyFrom l D cy b w a v s.heap.size ) (cwV 1 hts gX0_save_X2_copyFrom rfl rfl rfl (by decide +kernel) ⟨Nat.le_of_ble_eq_true rfl, Nat.le_of_ble_eq_true rfl⟩) wl_xT (fun _ _ _ => trivial) hK hP hD hS hA rfl rfl rfl rfl rfl hl.1 rfl (Nat.le_of_ble_eq_true rfl) dX0_save_64 ⟨Nat.le_of_ble_eq_true rfl, Nat.le_of_ble_eq_true rfl⟩ (fun bs4 H locs e5 _ _ hP hD hS => ?_)
  have e5 : bs4 = [stW cy b v, stW cy a v] := e5
  subst e5
  have hP : va_P D vwCl ([stW cy b v, stW cy a v, ([(h, .inr (0, [.ref g, .int (nI z)]))] : va_W), ([(g, .inl (cy 3, 6, (.inr (.inr (.inr (.inr f))))))] : va_W), P1, P2] : List va_W).flatten H := hP
  have hD : va_D A ([stW cy b v, stW cy a v, ([(h, .inr (0, [.ref g, .int (nI z)]))] : va_W), ([(g, .inl (cy 3, 6, (.inr (.inr (.inr (.inr f))))))] : va_W), P1, P2] : List va_W).flatten := hD
  have hP := wl_Po (bs' := [([(h, .inr (0, [.ref g, .int (nI z)]))] : va_W), ([(g, .inl (cy 3, 6, (.inr (.inr (.inr (.inr f))))))] : va_W), P1, stW cy b v, P2, stW cy a v]) [2, 3, 4, 0, 5, 1] 6 rfl (by decide) rfl hP
  have hD := wl_Do (bs' := [([(h, .inr (0, [.ref g, .int (nI z)]))] : va_W), ([(g, .inl (cy 3, 6, (.inr (.inr (.inr (.inr f))))))] : va_W), P1, stW cy b v, P2, stW cy a v]) [2, 3, 4, 0, 5, 1] 6 rfl (by decide) rfl hD
  refine lv_aload_n hx hb dX0_save_67 rfl (lv_at hl 1 rfl) ?_
  refine lv_dup hx hb dX0_save_68 rfl ?_
  refine wl_getf (C := RX0) (T := TX0) (N := 2) (ci := 0) (v := .int (nI z)) hx hb hts in_X0 hown hK hP 0 0 rfl rfl rfl 1 (by decide) lkf17 rfl rfl dX0_save_69 ?_
  refine lv_iconst (v := 1) hx hb dX0_save_72 (by decide) ?_
  refine lv_iadd hx hb dX0_save_73 ?_
  refine wl_top (y := nI (z + 1)) (nI_add z 1) ?_
  refine wl_putf (C := RX0) (T := TX0) (N := 2) (ci := 0) (v := .int (nI (z + 1))) hx hb hts in_X0 tyX0 tyX0_ok nmX0 hown hK hP hD hS 0 0 rfl rfl rfl 1 (by decide) lkf17 rfl rfl rfl rfl (Nat.le_of_ble_eq_true rfl) dX0_save_74 (fun H locs hP hD hS => ?_)
  have hP : va_P D vwCl ([([(h, .inr (0, [.ref g, .int (nI (z + 1))]))] : va_W), ([(g, .inl (cy 3, 6, (.inr (.inr (.inr (.inr f))))))] : va_W), P1, stW cy b v, P2, stW cy a v] : List va_W).flatten H := hP
  have hD : va_D A ([([(h, .inr (0, [.ref g, .int (nI (z + 1))]))] : va_W), ([(g, .inl (cy 3, 6, (.inr (.inr (.inr (.inr f))))))] : va_W), P1, stW cy b v, P2, stW cy a v] : List va_W).flatten := hD
  refine W.widen (k := 8) (n := 176) (by omega) (by omega) ?_
  exact wl_Rv (bs := [([(h, .inr (0, [.ref g, .int (nI (z + 1))]))] : va_W), ([(g, .inl (cy 3, 6, (.inr (.inr (.inr (.inr f))))))] : va_W), P1, stW cy b v, P2, stW cy a v]) hx hb hr hlocks hAe hP hD hS (by rfl) dX0_save_77
set_option maxHeartbeats 4000000 in
set_option maxRecDepth 100000 in
theorem m_X0_save_C (l : Launch) (D : va_G) (cy : Nat → ClassId) (h g : Nat) (f : Nat → Option Nat) (z : Nat) (P1 : va_W) (a : Nat → Nat) (v : Nat → Nat → Int32) (sz : Nat) (hz : z < 6) (hf : f z = none) : Met l yX0_save wsX0_save ({ frames := 2, cells := 8, slots := 176, locals := 45 } : Room) (wl_ic D cy (wl_E) [([(h, .inr (0, [.ref g, .int (nI z)]))] : va_W), ([(g, .inl (cy 3, 6, (.inr (.inr (.inr (.inr f))))))] : va_W), P1, stW cy a v] sz [.ref h, .ref (a 0)]) (va_Qv (fun (bs : List va_W) => ∃ b : Nat → Nat, bs = [([(h, .inr (0, [.ref g, .int (nI (z + 1))]))] : va_W), ([(g, .inl (cy 3, 6, (.inr (.inr (.inr (.inr (va_up f z (some (b 0)))))))))] : va_W), P1, stW cy b v, stW cy a v]) (wl_ib D [([(h, .inr (0, [.ref g, .int (nI z)]))] : va_W), ([(g, .inl (cy 3, 6, (.inr (.inr (.inr (.inr f))))))] : va_W), P1, stW cy a v] sz) (va_A ([([(h, .inr (0, [.ref g, .int (nI z)]))] : va_W), ([(g, .inl (cy 3, 6, (.inr (.inr (.inr (.inr f))))))] : va_W), P1, stW cy a v] : List va_W).flatten sz)) 8 176 (va_A ([([(h, .inr (0, [.ref g, .int (nI z)]))] : va_W), ([(g, .inl (cy 3, 6, (.inr (.inr (.inr (.inr f))))))] : va_W), P1, stW cy a v] : List va_W).flatten sz) := by
  refine wl_ofI (cc := cX0_save) (maxL := 3) (ret := none) (by decide) rfl (Nat.le_of_ble_eq_true rfl) ?_
  intro p e s m below meth c ls A hx hb hr hts hown hlocks hml hnm hsz hAe hP hK hD hX hA hS hl
  have hl : lv_has ls 3 [(0, .ref h), (1, .ref (a 0))] := hl
  have lkf11 := hts (.fieldLink RX0 11 "WireLamps$History" "states" "[LWireLamps$State;") (by decide +kernel)
  have lkf17 := hts (.fieldLink RX0 17 "WireLamps$History" "size" "I") (by decide +kernel)
  have lki_X2 := hts (.instantiable RX2 13) (by decide +kernel)
  have lkj_X2 := hts (.initialized RX2) (by decide +kernel)
  have lkk9 := hts (.classLink RX0 9 RX2) (by decide +kernel)
  have in_X0 : ∀ w ∈ u_ws RX0 TX0 2, w ∈ wsX0_save := by decide +kernel
  have in_X2 : ∀ w ∈ u_ws RX2 TX2 13, w ∈ wsX0_save := by decide +kernel
  refine lv_aload_n hx hb dX0_save_0 rfl (lv_at hl 0 rfl) ?_
  refine wl_getf (C := RX0) (T := TX0) (N := 2) (ci := 0) (v := .int (nI z)) hx hb hts in_X0 hown hK hP 0 0 rfl rfl rfl 1 (by decide) lkf17 rfl rfl dX0_save_1 ?_
  refine lv_bipush (v := 6) hx hb dX0_save_4 (by decide) ?_
  refine wl_icmp_lt (tgt := 13) hx hb z 6 dX0_save_6 (by decide) (by omega) (by omega) (fun c1 => ?_) (fun c1 => absurd c1 (by omega))
  refine lv_aload_n hx hb dX0_save_13 rfl (lv_at hl 0 rfl) ?_
  refine wl_getf (C := RX0) (T := TX0) (N := 2) (ci := 0) (v := .int (nI z)) hx hb hts in_X0 hown hK hP 0 0 rfl rfl rfl 1 (by decide) lkf17 rfl rfl dX0_save_14 ?_
  refine wl_if_lt (tgt := 29) hx hb z dX0_save_17 (by decide) (by omega) ?_
  refine lv_aload_n hx hb dX0_save_20 rfl (lv_at hl 0 rfl) ?_
  refine wl_getf (C := RX0) (T := TX0) (N := 2) (ci := 0) (v := .int (nI z)) hx hb hts in_X0 hown hK hP 0 0 rfl rfl rfl 1 (by decide) lkf17 rfl rfl dX0_save_21 ?_
  refine lv_bipush (v := 6) hx hb dX0_save_24 (by decide) ?_
  refine wl_icmp_lt (tgt := 30) hx hb z 6 dX0_save_26 (by decide) (by omega) (by omega) (fun c3 => ?_) (fun c3 => absurd c3 (by omega))
  refine lv_aload_n hx hb dX0_save_30 rfl (lv_at hl 0 rfl) ?_
  refine wl_getf (C := RX0) (T := TX0) (N := 2) (ci := 0) (v := .ref g) hx hb hts in_X0 hown hK hP 0 0 rfl rfl rfl 0 (by decide) lkf11 rfl rfl dX0_save_31 ?_
  refine lv_aload_n hx hb dX0_save_34 rfl (lv_at hl 0 rfl) ?_
  refine wl_getf (C := RX0) (T := TX0) (N := 2) (ci := 0) (v := .int (nI z)) hx hb hts in_X0 hown hK hP 0 0 rfl rfl rfl 1 (by decide) lkf17 rfl rfl dX0_save_35 ?_
  refine wl_aald hx hb hK hP 1 0 rfl rfl z (by omega) (Nat.le_of_ble_eq_true rfl) dX0_save_38 ?_
  refine wl_topv (y := .null) (by rw [hf]; rfl) ?_
  refine lv_astore_nN (lv' := [(2, .null), (0, .ref h), (1, .ref (a 0))]) hx hb dX0_save_39 rfl hl (by decide) rfl (fun ls hl => ?_)
  refine lv_aload_nN hx hb dX0_save_40 rfl (lv_at hl 0 rfl) ?_
  refine lv_ifnonnullN hx hb dX0_save_41 ?_
  refine wl_new (C := RX2) (T := TX2) (N := 13) (ci := 2) hx hb hts in_X2 tyX2 tyX2_ok hown lkk9 lki_X2 lkj_X2 hK hP hD hS hA rfl [.null, .null, .null, .null, .null, .null, .null, .int 0, .int 0, .int 0, .int 0, .int 0, .int 0] (by decide +kernel) (Nat.le_of_ble_eq_true rfl) (Nat.le_of_ble_eq_true rfl) dX0_save_44 (fun q4 H hP hD hS => ?_)
  refine W.widen (k := 1) (n := 13) (Nat.le_refl _) (Nat.le_refl _) ?_
  have hP : va_P D vwCl ([([(h, .inr (0, [.ref g, .int (nI z)]))] : va_W), ([(g, .inl (cy 3, 6, (.inr (.inr (.inr (.inr f))))))] : va_W), P1, stW cy a v, ([(q4, .inr (2, [.null, .null, .null, .null, .null, .null, .null, .int 0, .int 0, .int 0, .int 0, .int 0, .int 0]))] : va_W)] : List va_W).flatten H := hP
  have hD : va_D A ([([(h, .inr (0, [.ref g, .int (nI z)]))] : va_W), ([(g, .inl (cy 3, 6, (.inr (.inr (.inr (.inr f))))))] : va_W), P1, stW cy a v, ([(q4, .inr (2, [.null, .null, .null, .null, .null, .null, .null, .int 0, .int 0, .int 0, .int 0, .int 0, .int 0]))] : va_W)] : List va_W).flatten := hD
  refine lv_dup hx hb dX0_save_47 rfl ?_
  have hP := wl_Po (bs' := [([(q4, .inr (2, [.null, .null, .null, .null, .null, .null, .null, .int 0, .int 0, .int 0, .int 0, .int 0, .int 0]))] : va_W), ([(h, .inr (0, [.ref g, .int (nI z)]))] : va_W), ([(g, .inl (cy 3, 6, (.inr (.inr (.inr (.inr f))))))] : va_W), P1, stW cy a v]) [4, 0, 1, 2, 3] 5 rfl (by decide) rfl hP
  have hD := wl_Do (bs' := [([(q4, .inr (2, [.null, .null, .null, .null, .null, .null, .null, .int 0, .int 0, .int 0, .int 0, .int 0, .int 0]))] : va_W), ([(h, .inr (0, [.ref g, .int (nI z)]))] : va_W), ([(g, .inl (cy 3, 6, (.inr (.inr (.inr (.inr f))))))] : va_W), P1, stW cy a v]) [4, 0, 1, 2, 3] 5 rfl (by decide) rfl hD
  refine wl_iIN (host := "WireLamps") (As := []) (rest := [.ref q4]) (bsC := [([(q4, .inr (2, [.null, .null, .null, .null, .null, .null, .null, .int 0, .int 0, .int 0, .int 0, .int 0, .int 0]))] : va_W)]) (bsR := [([(h, .inr (0, [.ref g, .int (nI z)]))] : va_W), ([(g, .inl (cy 3, 6, (.inr (.inr (.inr (.inr f))))))] : va_W), P1, stW cy a v]) ⟨hx, hb, hml, hown, hts⟩ (m_X2_init l D cy q4 H.size) ⟨va_cnB 0 hts gX0_save_X2_init_n24 rfl rfl rfl hX.1 (hts (.initialized RX2) (by decide +kernel)) (by decide +kernel) ⟨Nat.le_of_ble_eq_true rfl, Nat.le_of_ble_eq_true rfl⟩, rfl, hts (.instanceMethod yX2_init) (by decide +kernel)⟩ wl_xT (fun _ _ _ => trivial) hK hP hD hS hA rfl hl.1 rfl (Nat.le_of_ble_eq_true rfl) dX0_save_48 ⟨Nat.le_of_ble_eq_true rfl, Nat.le_of_ble_eq_true rfl⟩ (fun bs5 H locs e6 _ _ hPn hDn hS => ?_)
  obtain ⟨a7, e8, e6⟩ := e6
  have e6 : bs5 = [stW cy a7 q_s0] := e6
  subst e6
  subst e8
  have hP : va_P D vwCl ([stW cy a7 q_s0, ([(h, .inr (0, [.ref g, .int (nI z)]))] : va_W), ([(g, .inl (cy 3, 6, (.inr (.inr (.inr (.inr f))))))] : va_W), P1, stW cy a v] : List va_W).flatten H := hPn
  have hD : va_D A ([stW cy a7 q_s0, ([(h, .inr (0, [.ref g, .int (nI z)]))] : va_W), ([(g, .inl (cy 3, 6, (.inr (.inr (.inr (.inr f))))))] : va_W), P1, stW cy a v] : List va_W).flatten := hDn
  refine W.widen (k := 8) (n := 176) (Nat.le_refl _) (Nat.le_refl _) ?_
  refine lv_astore_n (lv' := [(2, .ref (a7 0)), (0, .ref h), (1, .ref (a 0))]) hx hb dX0_save_51 rfl hl (by decide) rfl (fun ls hl => ?_)
  refine lv_aload_n hx hb dX0_save_52 rfl (lv_at hl 1 rfl) ?_
  refine wl_getf (C := RX0) (T := TX0) (N := 2) (ci := 0) (v := .ref g) hx hb hts in_X0 hown hK hP 1 0 rfl rfl rfl 0 (by decide) lkf11 rfl rfl dX0_save_53 ?_
  refine lv_aload_n hx hb dX0_save_56 rfl (lv_at hl 1 rfl) ?_
  refine wl_getf (C := RX0) (T := TX0) (N := 2) (ci := 0) (v := .int (nI z)) hx hb hts in_X0 hown hK hP 1 0 rfl rfl rfl 1 (by decide) lkf17 rfl rfl dX0_save_57 ?_
  refine lv_aload_n hx hb dX0_save_60 rfl (lv_at hl 0 rfl) ?_
  refine wl_aast hx hb hK hP hD hS 2 0 0 0 rfl rfl rfl rfl z (by omega) (Nat.le_of_ble_eq_true rfl) dX0_save_61 (fun H locs hP hD hS => ?_)
  have hP : va_P D vwCl ([stW cy a7 q_s0, ([(h, .inr (0, [.ref g, .int (nI z)]))] : va_W), ([(g, .inl (cy 3, 6, (.inr (.inr (.inr (.inr (va_up f z (some (a7 0)))))))))] : va_W), P1, stW cy a v] : List va_W).flatten H := hP
  have hD : va_D A ([stW cy a7 q_s0, ([(h, .inr (0, [.ref g, .int (nI z)]))] : va_W), ([(g, .inl (cy 3, 6, (.inr (.inr (.inr (.inr (va_up f z (some (a7 0)))))))))] : va_W), P1, stW cy a v] : List va_W).flatten := hD
  refine lv_aload_n hx hb dX0_save_62 rfl (lv_at hl 0 rfl) ?_
  refine lv_aload_n hx hb dX0_save_63 rfl (lv_at hl 2 rfl) ?_
  have hP := wl_Po (bs' := [stW cy a7 q_s0, stW cy a v, ([(h, .inr (0, [.ref g, .int (nI z)]))] : va_W), ([(g, .inl (cy 3, 6, (.inr (.inr (.inr (.inr (va_up f z (some (a7 0)))))))))] : va_W), P1]) [0, 4, 1, 2, 3] 5 rfl (by decide) rfl hP
  have hD := wl_Do (bs' := [stW cy a7 q_s0, stW cy a v, ([(h, .inr (0, [.ref g, .int (nI z)]))] : va_W), ([(g, .inl (cy 3, 6, (.inr (.inr (.inr (.inr (va_up f z (some (a7 0)))))))))] : va_W), P1]) [0, 4, 1, 2, 3] 5 rfl (by decide) rfl hD
  refine wl_iVv (As := [.ref (a 0)]) (rest := []) (bsC := [stW cy a7 q_s0, stW cy a v]) (bsR := [([(h, .inr (0, [.ref g, .int (nI z)]))] : va_W), ([(g, .inl (cy 3, 6, (.inr (.inr (.inr (.inr (va_up f z (some (a7 0)))))))))] : va_W), P1]) ⟨hx, hb, hml, hown, hts⟩ (m_X2_copyFrom l D cy a7 q_s0 a v H.size ) (cwV 1 hts gX0_save_X2_copyFrom rfl rfl rfl (by decide +kernel) ⟨Nat.le_of_ble_eq_true rfl, Nat.le_of_ble_eq_true rfl⟩) wl_xT (fun _ _ _ => trivial) hK hP hD hS hA rfl rfl rfl rfl rfl hl.1 rfl (Nat.le_of_ble_eq_true rfl) dX0_save_64 ⟨Nat.le_of_ble_eq_true rfl, Nat.le_of_ble_eq_true rfl⟩ (fun bs9 H locs e10 _ _ hP hD hS => ?_)
  have e10 : bs9 = [stW cy a7 v, stW cy a v] := e10
  subst e10
  have hP : va_P D vwCl ([stW cy a7 v, stW cy a v, ([(h, .inr (0, [.ref g, .int (nI z)]))] : va_W), ([(g, .inl (cy 3, 6, (.inr (.inr (.inr (.inr (va_up f z (some (a7 0)))))))))] : va_W), P1] : List va_W).flatten H := hP
  have hD : va_D A ([stW cy a7 v, stW cy a v, ([(h, .inr (0, [.ref g, .int (nI z)]))] : va_W), ([(g, .inl (cy 3, 6, (.inr (.inr (.inr (.inr (va_up f z (some (a7 0)))))))))] : va_W), P1] : List va_W).flatten := hD
  have hP := wl_Po (bs' := [stW cy a7 v, ([(h, .inr (0, [.ref g, .int (nI z)]))] : va_W), ([(g, .inl (cy 3, 6, (.inr (.inr (.inr (.inr (va_up f z (some (a7 0)))))))))] : va_W), P1, stW cy a v]) [0, 2, 3, 4, 1] 5 rfl (by decide) rfl hP
  have hD := wl_Do (bs' := [stW cy a7 v, ([(h, .inr (0, [.ref g, .int (nI z)]))] : va_W), ([(g, .inl (cy 3, 6, (.inr (.inr (.inr (.inr (va_up f z (some (a7 0)))))))))] : va_W), P1, stW cy a v]) [0, 2, 3, 4, 1] 5 rfl (by decide) rfl hD
  refine lv_aload_n hx hb dX0_save_67 rfl (lv_at hl 1 rfl) ?_
  refine lv_dup hx hb dX0_save_68 rfl ?_
  refine wl_getf (C := RX0) (T := TX0) (N := 2) (ci := 0) (v := .int (nI z)) hx hb hts in_X0 hown hK hP 1 0 rfl rfl rfl 1 (by decide) lkf17 rfl rfl dX0_save_69 ?_
  refine lv_iconst (v := 1) hx hb dX0_save_72 (by decide) ?_
  refine lv_iadd hx hb dX0_save_73 ?_
  refine wl_top (y := nI (z + 1)) (nI_add z 1) ?_
  refine wl_putf (C := RX0) (T := TX0) (N := 2) (ci := 0) (v := .int (nI (z + 1))) hx hb hts in_X0 tyX0 tyX0_ok nmX0 hown hK hP hD hS 1 0 rfl rfl rfl 1 (by decide) lkf17 rfl rfl rfl rfl (Nat.le_of_ble_eq_true rfl) dX0_save_74 (fun H locs hP hD hS => ?_)
  have hP : va_P D vwCl ([stW cy a7 v, ([(h, .inr (0, [.ref g, .int (nI (z + 1))]))] : va_W), ([(g, .inl (cy 3, 6, (.inr (.inr (.inr (.inr (va_up f z (some (a7 0)))))))))] : va_W), P1, stW cy a v] : List va_W).flatten H := hP
  have hD : va_D A ([stW cy a7 v, ([(h, .inr (0, [.ref g, .int (nI (z + 1))]))] : va_W), ([(g, .inl (cy 3, 6, (.inr (.inr (.inr (.inr (va_up f z (some (a7 0)))))))))] : va_W), P1, stW cy a v] : List va_W).flatten := hD
  have hP := wl_Po (bs' := [([(h, .inr (0, [.ref g, .int (nI (z + 1))]))] : va_W), ([(g, .inl (cy 3, 6, (.inr (.inr (.inr (.inr (va_up f z (some (a7 0)))))))))] : va_W), P1, stW cy a7 v, stW cy a v]) [1, 2, 3, 0, 4] 5 rfl (by decide) rfl hP
  have hD := wl_Do (bs' := [([(h, .inr (0, [.ref g, .int (nI (z + 1))]))] : va_W), ([(g, .inl (cy 3, 6, (.inr (.inr (.inr (.inr (va_up f z (some (a7 0)))))))))] : va_W), P1, stW cy a7 v, stW cy a v]) [1, 2, 3, 0, 4] 5 rfl (by decide) rfl hD
  have hP : va_P D vwCl ([([(h, .inr (0, [.ref g, .int (nI (z + 1))]))] : va_W), ([(g, .inl (cy 3, 6, (.inr (.inr (.inr (.inr (va_up f z (some (a7 0)))))))))] : va_W), P1, stW cy a7 v, stW cy a v] : List va_W).flatten H := hP
  have hD : va_D A ([([(h, .inr (0, [.ref g, .int (nI (z + 1))]))] : va_W), ([(g, .inl (cy 3, 6, (.inr (.inr (.inr (.inr (va_up f z (some (a7 0)))))))))] : va_W), P1, stW cy a7 v, stW cy a v] : List va_W).flatten := hD
  exact wl_Rv (bs := [([(h, .inr (0, [.ref g, .int (nI (z + 1))]))] : va_W), ([(g, .inl (cy 3, 6, (.inr (.inr (.inr (.inr (va_up f z (some (a7 0)))))))))] : va_W), P1, stW cy a7 v, stW cy a v]) hx hb hr hlocks hAe hP hD hS (by exact ⟨_, rfl⟩) dX0_save_77
