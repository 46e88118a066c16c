/-! WireLamps: what is saved first -/
set_option maxHeartbeats 4000000 in
set_option maxRecDepth 100000 in
theorem m_X4_mode (l : Launch) (D : va_G) (cy : Nat → ClassId) (x : Nat) (sa ja ta : Nat → Nat) (h q : Nat) (g : Nat) (L : HsL) (z : Nat) (v : Nat → Nat → Int32) (i k : Nat) (sz : Nat) (hz : z ≤ L.length) (hL : L.length ≤ 6) (hi : i < 8) (hk : k ≤ 3) : Met l yX4_mode wsX4_mode ({ frames := 3, cells := 8, slots := 176, locals := 67 } : Room) (wl_ic D cy (wl_E) [([(x, .inr (4, [.ref (sa 0), .ref (ja 0), .ref (ta 0), .ref h, .ref q]))] : va_W), ([(h, .inr (0, [.ref g, .int (nI z)]))] : va_W), ([(g, .inl (cy 3, 6, (.inr (.inr (.inr (.inr (q_rf L)))))))] : va_W), plW cy L, stW cy sa v] sz [.ref x, .int (nI i), .int (nI k)]) (va_Qi (fun (r : Int32) (bs : List va_W) => ∃ (L1 : HsL) (z1 : Nat), r = v 0 i ∧ bs = [([(x, .inr (4, [.ref (sa 0), .ref (ja 0), .ref (ta 0), .ref h, .ref q]))] : va_W), ([(h, .inr (0, [.ref g, .int (nI z1)]))] : va_W), ([(g, .inl (cy 3, 6, (.inr (.inr (.inr (.inr (q_rf L1)))))))] : va_W), plW cy L1, stW cy sa (su v 0 i (nI k))] ∧ z1 ≤ L1.length ∧ L1.length ≤ 6 ∧ (L1.take z1).map Prod.snd = q_push ((L.take z).map Prod.snd) v) (wl_ib D [([(x, .inr (4, [.ref (sa 0), .ref (ja 0), .ref (ta 0), .ref h, .ref q]))] : va_W), ([(h, .inr (0, [.ref g, .int (nI z)]))] : va_W), ([(g, .inl (cy 3, 6, (.inr (.inr (.inr (.inr (q_rf L)))))))] : va_W), plW cy L, stW cy sa v] sz) (va_A ([([(x, .inr (4, [.ref (sa 0), .ref (ja 0), .ref (ta 0), .ref h, .ref q]))] : va_W), ([(h, .inr (0, [.ref g, .int (nI z)]))] : va_W), ([(g, .inl (cy 3, 6, (.inr (.inr (.inr (.inr (q_rf L)))))))] : va_W), plW cy L, stW cy sa v] : List va_W).flatten sz)) 8 176 (va_A ([([(x, .inr (4, [.ref (sa 0), .ref (ja 0), .ref (ta 0), .ref h, .ref q]))] : va_W), ([(h, .inr (0, [.ref g, .int (nI z)]))] : va_W), ([(g, .inl (cy 3, 6, (.inr (.inr (.inr (.inr (q_rf L)))))))] : va_W), plW cy L, stW cy sa v] : List va_W).flatten sz) := by
  refine wl_ofI (cc := cX4_mode) (maxL := 4) (ret := (some .int)) (by decide) rfl (Nat.le_of_ble_eq_true rfl) ?_
  intro p e s m below meth c ls A hx hb hr hts hown hlocks hml hnm hsz hAe hP hK hD hX hA hS hl
  have hl : lv_has ls 4 [(0, .ref x), (1, .int (nI i)), (2, .int (nI k))] := hl
  have lkf10 := hts (.fieldLink RX4 10 "WireLamps" "state" "LWireLamps$State;") (by decide +kernel)
  have lkf33 := hts (.fieldLink RX4 33 "WireLamps" "history" "LWireLamps$History;") (by decide +kernel)
  have lkf61 := hts (.fieldLink RX4 61 "WireLamps$State" "modes" "[I") (by decide +kernel)
  have in_X2 : ∀ w ∈ u_ws RX2 TX2 13, w ∈ wsX4_mode := by decide +kernel
  have in_X4 : ∀ w ∈ u_ws RX4 TX4 5, w ∈ wsX4_mode := by decide +kernel
  refine lv_iload_n hx hb dX4_mode_0 rfl (lv_at hl 1 rfl) ?_
  refine wl_pS (As := [.int (nI i)]) (rest := []) ⟨hx, hb, hml, hown, hts⟩ (m_X4_isLamp l D cy (nI i) ) (va_cwS 1 hts gX4_mode_X4_isLamp rfl rfl rfl (by decide +kernel) ⟨Nat.le_of_ble_eq_true rfl, Nat.le_of_ble_eq_true rfl⟩) hK hP [] rfl rfl hl.1 rfl (Nat.le_of_ble_eq_true rfl) dX4_mode_1 ⟨Nat.le_of_ble_eq_true rfl, Nat.le_of_ble_eq_true rfl⟩ (fun r1 er1 => ?_)
  have er1 : r1 = if (¬ (nI i) < 0 ∧ ¬ 8 ≤ (nI i)) then 1 else 0 := er1
  refine wl_b_ne (tgt := 17) hx hb (¬ (nI i) < 0 ∧ ¬ 8 ≤ (nI i)) er1 dX4_mode_4 (by decide) (fun c2 => ?_) (fun c2 => absurd (wl_rng (n := 8) rfl hi (by decide)) c2)
  refine lv_iload_n hx hb dX4_mode_17 rfl (lv_at hl 2 rfl) ?_
  refine wl_if_lt (tgt := 26) hx hb k dX4_mode_18 (by decide) (by omega) ?_
  refine lv_iload_n hx hb dX4_mode_21 rfl (lv_at hl 2 rfl) ?_
  refine lv_iconst (v := 3) hx hb dX4_mode_22 (by decide) ?_
  refine wl_icmp_le (tgt := 36) hx hb k 3 dX4_mode_23 (by decide) (by omega) (by omega) (fun c4 => ?_) (fun c4 => absurd c4 (by omega))
  refine lv_aload_n hx hb dX4_mode_36 rfl (lv_at hl 0 rfl) ?_
  refine wl_getf (C := RX4) (T := TX4) (N := 5) (ci := 4) (v := .ref h) hx hb hts in_X4 hown hK hP 0 0 rfl rfl rfl 3 (by decide) lkf33 rfl rfl dX4_mode_37 ?_
  refine lv_aload_n hx hb dX4_mode_40 rfl (lv_at hl 0 rfl) ?_
  refine wl_getf (C := RX4) (T := TX4) (N := 5) (ci := 4) (v := .ref (sa 0)) hx hb hts in_X4 hown hK hP 0 0 rfl rfl rfl 0 (by decide) lkf10 rfl rfl dX4_mode_41 ?_
  have hP := wl_Po (bs' := [([(h, .inr (0, [.ref g, .int (nI z)]))] : va_W), ([(g, .inl (cy 3, 6, (.inr (.inr (.inr (.inr (q_rf L)))))))] : va_W), plW cy L, stW cy sa v, ([(x, .inr (4, [.ref (sa 0), .ref (ja 0), .ref (ta 0), .ref h, .ref q]))] : va_W)]) [1, 2, 3, 4, 0] 5 rfl (by decide) rfl hP
  have hD := wl_Do (bs' := [([(h, .inr (0, [.ref g, .int (nI z)]))] : va_W), ([(g, .inl (cy 3, 6, (.inr (.inr (.inr (.inr (q_rf L)))))))] : va_W), plW cy L, stW cy sa v, ([(x, .inr (4, [.ref (sa 0), .ref (ja 0), .ref (ta 0), .ref h, .ref q]))] : va_W)]) [1, 2, 3, 4, 0] 5 rfl (by decide) rfl hD
  refine wl_iVv (As := [.ref (sa 0)]) (rest := []) (bsC := [([(h, .inr (0, [.ref g, .int (nI z)]))] : va_W), ([(g, .inl (cy 3, 6, (.inr (.inr (.inr (.inr (q_rf L)))))))] : va_W), plW cy L, stW cy sa v]) (bsR := [([(x, .inr (4, [.ref (sa 0), .ref (ja 0), .ref (ta 0), .ref h, .ref q]))] : va_W)]) ⟨hx, hb, hml, hown, hts⟩ (m_X0_save l D cy h g L z sa v s.heap.size (by omega) (by omega)) (cwV 1 hts gX4_mode_X0_save rfl rfl rfl (by decide +kernel) ⟨Nat.le_of_ble_eq_true rfl, Nat.le_of_ble_eq_true rfl⟩) wl_E_b (fun U _ hW => wl_E_w hW hX) hK hP hD hS hA rfl rfl rfl rfl rfl hl.1 rfl (Nat.le_of_ble_eq_true rfl) dX4_mode_44 ⟨Nat.le_of_ble_eq_true rfl, Nat.le_of_ble_eq_true rfl⟩ (fun bs5 H locs e6 _ _ hP hD hS => ?_)
  obtain ⟨L17, z18, e6, f9, f10, f11⟩ := e6
  have e6 : bs5 = [([(h, .inr (0, [.ref g, .int (nI z18)]))] : va_W), ([(g, .inl (cy 3, 6, (.inr (.inr (.inr (.inr (q_rf L17)))))))] : va_W), plW cy L17, stW cy sa v] := e6
  subst e6
  refine W.widen (k := 8) (n := 176) (Nat.le_refl _) (Nat.le_refl _) ?_
  have hP : va_P D vwCl ([([(h, .inr (0, [.ref g, .int (nI z18)]))] : va_W), ([(g, .inl (cy 3, 6, (.inr (.inr (.inr (.inr (q_rf L17)))))))] : va_W), plW cy L17, stW cy sa v, ([(x, .inr (4, [.ref (sa 0), .ref (ja 0), .ref (ta 0), .ref h, .ref q]))] : va_W)] : List va_W).flatten H := hP
  have hD : va_D A ([([(h, .inr (0, [.ref g, .int (nI z18)]))] : va_W), ([(g, .inl (cy 3, 6, (.inr (.inr (.inr (.inr (q_rf L17)))))))] : va_W), plW cy L17, stW cy sa v, ([(x, .inr (4, [.ref (sa 0), .ref (ja 0), .ref (ta 0), .ref h, .ref q]))] : va_W)] : List va_W).flatten := hD
  have hP := wl_Po (bs' := [([(x, .inr (4, [.ref (sa 0), .ref (ja 0), .ref (ta 0), .ref h, .ref q]))] : va_W), ([(h, .inr (0, [.ref g, .int (nI z18)]))] : va_W), ([(g, .inl (cy 3, 6, (.inr (.inr (.inr (.inr (q_rf L17)))))))] : va_W), plW cy L17, stW cy sa v]) [4, 0, 1, 2, 3] 5 rfl (by decide) rfl hP
  have hD := wl_Do (bs' := [([(x, .inr (4, [.ref (sa 0), .ref (ja 0), .ref (ta 0), .ref h, .ref q]))] : va_W), ([(h, .inr (0, [.ref g, .int (nI z18)]))] : va_W), ([(g, .inl (cy 3, 6, (.inr (.inr (.inr (.inr (q_rf L17)))))))] : va_W), plW cy L17, stW cy sa v]) [4, 0, 1, 2, 3] 5 rfl (by decide) rfl hD
  refine lv_aload_n hx hb dX4_mode_47 rfl (lv_at hl 0 rfl) ?_
  refine wl_getf (C := RX4) (T := TX4) (N := 5) (ci := 4) (v := .ref (sa 0)) hx hb hts in_X4 hown hK hP 0 0 rfl rfl rfl 0 (by decide) lkf10 rfl rfl dX4_mode_48 ?_
  refine wl_getf (C := RX2) (T := TX2) (N := 13) (ci := 2) (v := .ref (sa 1)) hx hb hts in_X2 hown hK hP 4 0 rfl rfl rfl 0 (by decide) lkf61 rfl rfl dX4_mode_51 ?_
  refine lv_iload_n hx hb dX4_mode_54 rfl (lv_at hl 1 rfl) ?_
  refine wl_iald hx hb hK hP 4 1 rfl rfl i (by omega) (Nat.le_of_ble_eq_true rfl) dX4_mode_55 ?_
  refine lv_istore_n (lv' := [(3, .int (v 0 i)), (0, .ref x), (1, .int (nI i)), (2, .int (nI k))]) hx hb dX4_mode_56 rfl hl (by decide) rfl (fun ls hl => ?_)
  refine lv_aload_n hx hb dX4_mode_57 rfl (lv_at hl 1 rfl) ?_
  refine wl_getf (C := RX4) (T := TX4) (N := 5) (ci := 4) (v := .ref (sa 0)) hx hb hts in_X4 hown hK hP 0 0 rfl rfl rfl 0 (by decide) lkf10 rfl rfl dX4_mode_58 ?_
  refine wl_getf (C := RX2) (T := TX2) (N := 13) (ci := 2) (v := .ref (sa 1)) hx hb hts in_X2 hown hK hP 4 0 rfl rfl rfl 0 (by decide) lkf61 rfl rfl dX4_mode_61 ?_
  refine lv_iload_n hx hb dX4_mode_64 rfl (lv_at hl 2 rfl) ?_
  refine lv_iload_n hx hb dX4_mode_65 rfl (lv_at hl 3 rfl) ?_
  refine wl_iast hx hb hK hP hD hS 4 1 rfl rfl i (by omega) (Nat.le_of_ble_eq_true rfl) dX4_mode_66 (fun H locs hP hD hS => ?_)
  have hP : va_P D vwCl ([([(x, .inr (4, [.ref (sa 0), .ref (ja 0), .ref (ta 0), .ref h, .ref q]))] : va_W), ([(h, .inr (0, [.ref g, .int (nI z18)]))] : va_W), ([(g, .inl (cy 3, 6, (.inr (.inr (.inr (.inr (q_rf L17)))))))] : va_W), plW cy L17, stW cy sa (su v 0 i (nI k))] : List va_W).flatten H := hP
  have hD : va_D A ([([(x, .inr (4, [.ref (sa 0), .ref (ja 0), .ref (ta 0), .ref h, .ref q]))] : va_W), ([(h, .inr (0, [.ref g, .int (nI z18)]))] : va_W), ([(g, .inl (cy 3, 6, (.inr (.inr (.inr (.inr (q_rf L17)))))))] : va_W), plW cy L17, stW cy sa (su v 0 i (nI k))] : List va_W).flatten := hD
  refine lv_iload_n hx hb dX4_mode_67 rfl (lv_at hl 0 rfl) ?_
  exact wl_Ri (bs := [([(x, .inr (4, [.ref (sa 0), .ref (ja 0), .ref (ta 0), .ref h, .ref q]))] : va_W), ([(h, .inr (0, [.ref g, .int (nI z18)]))] : va_W), ([(g, .inl (cy 3, 6, (.inr (.inr (.inr (.inr (q_rf L17)))))))] : va_W), plW cy L17, stW cy sa (su v 0 i (nI k))]) (r := (v 0 i)) hx hb hr hlocks hAe hP hD hS (by exact ⟨L17, z18, rfl, rfl, f9, f10, f11⟩) dX4_mode_68
set_option maxHeartbeats 4000000 in
set_option maxRecDepth 100000 in
theorem m_X4_loss (l : Launch) (D : va_G) (cy : Nat → ClassId) (x : Nat) (sa ja ta : Nat → Nat) (h q : Nat) (g : Nat) (L : HsL) (z : Nat) (v : Nat → Nat → Int32) (i k : Nat) (sz : Nat) (hz : z ≤ L.length) (hL : L.length ≤ 6) (hi : i < 8) (hk : k ≤ 6) : Met l yX4_loss wsX4_loss ({ frames := 3, cells := 8, slots := 176, locals := 67 } : Room) (wl_ic D cy (wl_E) [([(x, .inr (4, [.ref (sa 0), .ref (ja 0), .ref (ta 0), .ref h, .ref q]))] : va_W), ([(h, .inr (0, [.ref g, .int (nI z)]))] : va_W), ([(g, .inl (cy 3, 6, (.inr (.inr (.inr (.inr (q_rf L)))))))] : va_W), plW cy L, stW cy sa v] sz [.ref x, .int (nI i), .int (nI k)]) (va_Qi (fun (r : Int32) (bs : List va_W) => ∃ (L1 : HsL) (z1 : Nat), r = v 1 i ∧ bs = [([(x, .inr (4, [.ref (sa 0), .ref (ja 0), .ref (ta 0), .ref h, .ref q]))] : va_W), ([(h, .inr (0, [.ref g, .int (nI z1)]))] : va_W), ([(g, .inl (cy 3, 6, (.inr (.inr (.inr (.inr (q_rf L1)))))))] : va_W), plW cy L1, stW cy sa (su v 1 i (nI k))] ∧ z1 ≤ L1.length ∧ L1.length ≤ 6 ∧ (L1.take z1).map Prod.snd = q_push ((L.take z).map Prod.snd) v) (wl_ib D [([(x, .inr (4, [.ref (sa 0), .ref (ja 0), .ref (ta 0), .ref h, .ref q]))] : va_W), ([(h, .inr (0, [.ref g, .int (nI z)]))] : va_W), ([(g, .inl (cy 3, 6, (.inr (.inr (.inr (.inr (q_rf L)))))))] : va_W), plW cy L, stW cy sa v] sz) (va_A ([([(x, .inr (4, [.ref (sa 0), .ref (ja 0), .ref (ta 0), .ref h, .ref q]))] : va_W), ([(h, .inr (0, [.ref g, .int (nI z)]))] : va_W), ([(g, .inl (cy 3, 6, (.inr (.inr (.inr (.inr (q_rf L)))))))] : va_W), plW cy L, stW cy sa v] : List va_W).flatten sz)) 8 176 (va_A ([([(x, .inr (4, [.ref (sa 0), .ref (ja 0), .ref (ta 0), .ref h, .ref q]))] : va_W), ([(h, .inr (0, [.ref g, .int (nI z)]))] : va_W), ([(g, .inl (cy 3, 6, (.inr (.inr (.inr (.inr (q_rf L)))))))] : va_W), plW cy L, stW cy sa v] : List va_W).flatten sz) := by
  refine wl_ofI (cc := cX4_loss) (maxL := 4) (ret := (some .int)) (by decide) rfl (Nat.le_of_ble_eq_true rfl) ?_
  intro p e s m below meth c ls A hx hb hr hts hown hlocks hml hnm hsz hAe hP hK hD hX hA hS hl
  have hl : lv_has ls 4 [(0, .ref x), (1, .int (nI i)), (2, .int (nI k))] := hl
  have lkf10 := hts (.fieldLink RX4 10 "WireLamps" "state" "LWireLamps$State;") (by decide +kernel)
  have lkf33 := hts (.fieldLink RX4 33 "WireLamps" "history" "LWireLamps$History;") (by decide +kernel)
  have lkf67 := hts (.fieldLink RX4 67 "WireLamps$State" "losses" "[I") (by decide +kernel)
  have in_X2 : ∀ w ∈ u_ws RX2 TX2 13, w ∈ wsX4_loss := by decide +kernel
  have in_X4 : ∀ w ∈ u_ws RX4 TX4 5, w ∈ wsX4_loss := by decide +kernel
  refine lv_iload_n hx hb dX4_loss_0 rfl (lv_at hl 1 rfl) ?_
  refine wl_pS (As := [.int (nI i)]) (rest := []) ⟨hx, hb, hml, hown, hts⟩ (m_X4_isLamp l D cy (nI i) ) (va_cwS 1 hts gX4_loss_X4_isLamp rfl rfl rfl (by decide +kernel) ⟨Nat.le_of_ble_eq_true rfl, Nat.le_of_ble_eq_true rfl⟩) hK hP [] rfl rfl hl.1 rfl (Nat.le_of_ble_eq_true rfl) dX4_loss_1 ⟨Nat.le_of_ble_eq_true rfl, Nat.le_of_ble_eq_true rfl⟩ (fun r1 er1 => ?_)
  have er1 : r1 = if (¬ (nI i) < 0 ∧ ¬ 8 ≤ (nI i)) then 1 else 0 := er1
  refine wl_b_ne (tgt := 17) hx hb (¬ (nI i) < 0 ∧ ¬ 8 ≤ (nI i)) er1 dX4_loss_4 (by decide) (fun c2 => ?_) (fun c2 => absurd (wl_rng (n := 8) rfl hi (by decide)) c2)
  refine lv_iload_n hx hb dX4_loss_17 rfl (lv_at hl 2 rfl) ?_
  refine wl_if_lt (tgt := 27) hx hb k dX4_loss_18 (by decide) (by omega) ?_
  refine lv_iload_n hx hb dX4_loss_21 rfl (lv_at hl 2 rfl) ?_
  refine lv_bipush (v := 6) hx hb dX4_loss_22 (by decide) ?_
  refine wl_icmp_le (tgt := 37) hx hb k 6 dX4_loss_24 (by decide) (by omega) (by omega) (fun c4 => ?_) (fun c4 => absurd c4 (by omega))
  refine lv_aload_n hx hb dX4_loss_37 rfl (lv_at hl 0 rfl) ?_
  refine wl_getf (C := RX4) (T := TX4) (N := 5) (ci := 4) (v := .ref h) hx hb hts in_X4 hown hK hP 0 0 rfl rfl rfl 3 (by decide) lkf33 rfl rfl dX4_loss_38 ?_
  refine lv_aload_n hx hb dX4_loss_41 rfl (lv_at hl 0 rfl) ?_
  refine wl_getf (C := RX4) (T := TX4) (N := 5) (ci := 4) (v := .ref (sa 0)) hx hb hts in_X4 hown hK hP 0 0 rfl rfl rfl 0 (by decide) lkf10 rfl rfl dX4_loss_42 ?_
  have hP := wl_Po (bs' := [([(h, .inr (0, [.ref g, .int (nI z)]))] : va_W), ([(g, .inl (cy 3, 6, (.inr (.inr (.inr (.inr (q_rf L)))))))] : va_W), plW cy L, stW cy sa v, ([(x, .inr (4, [.ref (sa 0), .ref (ja 0), .ref (ta 0), .ref h, .ref q]))] : va_W)]) [1, 2, 3, 4, 0] 5 rfl (by decide) rfl hP
  have hD := wl_Do (bs' := [([(h, .inr (0, [.ref g, .int (nI z)]))] : va_W), ([(g, .inl (cy 3, 6, (.inr (.inr (.inr (.inr (q_rf L)))))))] : va_W), plW cy L, stW cy sa v, ([(x, .inr (4, [.ref (sa 0), .ref (ja 0), .ref (ta 0), .ref h, .ref q]))] : va_W)]) [1, 2, 3, 4, 0] 5 rfl (by decide) rfl hD
  refine wl_iVv (As := [.ref (sa 0)]) (rest := []) (bsC := [([(h, .inr (0, [.ref g, .int (nI z)]))] : va_W), ([(g, .inl (cy 3, 6, (.inr (.inr (.inr (.inr (q_rf L)))))))] : va_W), plW cy L, stW cy sa v]) (bsR := [([(x, .inr (4, [.ref (sa 0), .ref (ja 0), .ref (ta 0), .ref h, .ref q]))] : va_W)]) ⟨hx, hb, hml, hown, hts⟩ (m_X0_save l D cy h g L z sa v s.heap.size (by omega) (by omega)) (cwV 1 hts gX4_loss_X0_save rfl rfl rfl (by decide +kernel) ⟨Nat.le_of_ble_eq_true rfl, Nat.le_of_ble_eq_true rfl⟩) wl_E_b (fun U _ hW => wl_E_w hW hX) hK hP hD hS hA rfl rfl rfl rfl rfl hl.1 rfl (Nat.le_of_ble_eq_true rfl) dX4_loss_45 ⟨Nat.le_of_ble_eq_true rfl, Nat.le_of_ble_eq_true rfl⟩ (fun bs5 H locs e6 _ _ hP hD hS => ?_)
  obtain ⟨L17, z18, e6, f9, f10, f11⟩ := e6
  have e6 : bs5 = [([(h, .inr (0, [.ref g, .int (nI z18)]))] : va_W), ([(g, .inl (cy 3, 6, (.inr (.inr (.inr (.inr (q_rf L17)))))))] : va_W), plW cy L17, stW cy sa v] := e6
  subst e6
  refine W.widen (k := 8) (n := 176) (Nat.le_refl _) (Nat.le_refl _) ?_
  have hP : va_P D vwCl ([([(h, .inr (0, [.ref g, .int (nI z18)]))] : va_W), ([(g, .inl (cy 3, 6, (.inr (.inr (.inr (.inr (q_rf L17)))))))] : va_W), plW cy L17, stW cy sa v, ([(x, .inr (4, [.ref (sa 0), .ref (ja 0), .ref (ta 0), .ref h, .ref q]))] : va_W)] : List va_W).flatten H := hP
  have hD : va_D A ([([(h, .inr (0, [.ref g, .int (nI z18)]))] : va_W), ([(g, .inl (cy 3, 6, (.inr (.inr (.inr (.inr (q_rf L17)))))))] : va_W), plW cy L17, stW cy sa v, ([(x, .inr (4, [.ref (sa 0), .ref (ja 0), .ref (ta 0), .ref h, .ref q]))] : va_W)] : List va_W).flatten := hD
  have hP := wl_Po (bs' := [([(x, .inr (4, [.ref (sa 0), .ref (ja 0), .ref (ta 0), .ref h, .ref q]))] : va_W), ([(h, .inr (0, [.ref g, .int (nI z18)]))] : va_W), ([(g, .inl (cy 3, 6, (.inr (.inr (.inr (.inr (q_rf L17)))))))] : va_W), plW cy L17, stW cy sa v]) [4, 0, 1, 2, 3] 5 rfl (by decide) rfl hP
  have hD := wl_Do (bs' := [([(x, .inr (4, [.ref (sa 0), .ref (ja 0), .ref (ta 0), .ref h, .ref q]))] : va_W), ([(h, .inr (0, [.ref g, .int (nI z18)]))] : va_W), ([(g, .inl (cy 3, 6, (.inr (.inr (.inr (.inr (q_rf L17)))))))] : va_W), plW cy L17, stW cy sa v]) [4, 0, 1, 2, 3] 5 rfl (by decide) rfl hD
  refine lv_aload_n hx hb dX4_loss_48 rfl (lv_at hl 0 rfl) ?_
  refine wl_getf (C := RX4) (T := TX4) (N := 5) (ci := 4) (v := .ref (sa 0)) hx hb hts in_X4 hown hK hP 0 0 rfl rfl rfl 0 (by decide) lkf10 rfl rfl dX4_loss_49 ?_
  refine wl_getf (C := RX2) (T := TX2) (N := 13) (ci := 2) (v := .ref (sa 2)) hx hb hts in_X2 hown hK hP 4 0 rfl rfl rfl 1 (by decide) lkf67 rfl rfl dX4_loss_52 ?_
  refine lv_iload_n hx hb dX4_loss_55 rfl (lv_at hl 1 rfl) ?_
  refine wl_iald hx hb hK hP 4 2 rfl rfl i (by omega) (Nat.le_of_ble_eq_true rfl) dX4_loss_56 ?_
  refine lv_istore_n (lv' := [(3, .int (v 1 i)), (0, .ref x), (1, .int (nI i)), (2, .int (nI k))]) hx hb dX4_loss_57 rfl hl (by decide) rfl (fun ls hl => ?_)
  refine lv_aload_n hx hb dX4_loss_58 rfl (lv_at hl 1 rfl) ?_
  refine wl_getf (C := RX4) (T := TX4) (N := 5) (ci := 4) (v := .ref (sa 0)) hx hb hts in_X4 hown hK hP 0 0 rfl rfl rfl 0 (by decide) lkf10 rfl rfl dX4_loss_59 ?_
  refine wl_getf (C := RX2) (T := TX2) (N := 13) (ci := 2) (v := .ref (sa 2)) hx hb hts in_X2 hown hK hP 4 0 rfl rfl rfl 1 (by decide) lkf67 rfl rfl dX4_loss_62 ?_
  refine lv_iload_n hx hb dX4_loss_65 rfl (lv_at hl 2 rfl) ?_
  refine lv_iload_n hx hb dX4_loss_66 rfl (lv_at hl 3 rfl) ?_
  refine wl_iast hx hb hK hP hD hS 4 2 rfl rfl i (by omega) (Nat.le_of_ble_eq_true rfl) dX4_loss_67 (fun H locs hP hD hS => ?_)
  have hP : va_P D vwCl ([([(x, .inr (4, [.ref (sa 0), .ref (ja 0), .ref (ta 0), .ref h, .ref q]))] : va_W), ([(h, .inr (0, [.ref g, .int (nI z18)]))] : va_W), ([(g, .inl (cy 3, 6, (.inr (.inr (.inr (.inr (q_rf L17)))))))] : va_W), plW cy L17, stW cy sa (su v 1 i (nI k))] : List va_W).flatten H := hP
  have hD : va_D A ([([(x, .inr (4, [.ref (sa 0), .ref (ja 0), .ref (ta 0), .ref h, .ref q]))] : va_W), ([(h, .inr (0, [.ref g, .int (nI z18)]))] : va_W), ([(g, .inl (cy 3, 6, (.inr (.inr (.inr (.inr (q_rf L17)))))))] : va_W), plW cy L17, stW cy sa (su v 1 i (nI k))] : List va_W).flatten := hD
  refine lv_iload_n hx hb dX4_loss_68 rfl (lv_at hl 0 rfl) ?_
  exact wl_Ri (bs := [([(x, .inr (4, [.ref (sa 0), .ref (ja 0), .ref (ta 0), .ref h, .ref q]))] : va_W), ([(h, .inr (0, [.ref g, .int (nI z18)]))] : va_W), ([(g, .inl (cy 3, 6, (.inr (.inr (.inr (.inr (q_rf L17)))))))] : va_W), plW cy L17, stW cy sa (su v 1 i (nI k))]) (r := (v 1 i)) hx hb hr hlocks hAe hP hD hS (by exact ⟨L17, z18, rfl, rfl, f9, f10, f11⟩) dX4_loss_69
set_option maxHeartbeats 4000000 in
set_option maxRecDepth 100000 in
theorem m_X4_set (l : Launch) (D : va_G) (cy : Nat → ClassId) (x : Nat) (sa ja ta : Nat → Nat) (h q : Nat) (g : Nat) (L : HsL) (z : Nat) (v : Nat → Nat → Int32) (i k : Nat) (sz : Nat) (hz : z ≤ L.length) (hL : L.length ≤ 6) (hi : i < 3) (hk : q_lo3 i ≤ k ∧ k ≤ q_hi3 i) : Met l yX4_set wsX4_set ({ frames := 3, cells := 8, slots := 176, locals := 67 } : Room) (wl_ic D cy (wl_T (va_A ([([(x, .inr (4, [.ref (sa 0), .ref (ja 0), .ref (ta 0), .ref h, .ref q]))] : va_W), ([(h, .inr (0, [.ref g, .int (nI z)]))] : va_W), ([(g, .inl (cy 3, 6, (.inr (.inr (.inr (.inr (q_rf L)))))))] : va_W), plW cy L, stW cy sa v] : List va_W).flatten sz)) [([(x, .inr (4, [.ref (sa 0), .ref (ja 0), .ref (ta 0), .ref h, .ref q]))] : va_W), ([(h, .inr (0, [.ref g, .int (nI z)]))] : va_W), ([(g, .inl (cy 3, 6, (.inr (.inr (.inr (.inr (q_rf L)))))))] : va_W), plW cy L, stW cy sa v] sz [.ref x, .int (nI i), .int (nI k)]) (va_Qi (fun (r : Int32) (bs : List va_W) => ∃ (L1 : HsL) (z1 : Nat), r = v 5 i ∧ bs = [([(x, .inr (4, [.ref (sa 0), .ref (ja 0), .ref (ta 0), .ref h, .ref q]))] : va_W), ([(h, .inr (0, [.ref g, .int (nI z1)]))] : va_W), ([(g, .inl (cy 3, 6, (.inr (.inr (.inr (.inr (q_rf L1)))))))] : va_W), plW cy L1, stW cy sa (su v 5 i (nI k))] ∧ z1 ≤ L1.length ∧ L1.length ≤ 6 ∧ (L1.take z1).map Prod.snd = q_push ((L.take z).map Prod.snd) v) (wl_ib D [([(x, .inr (4, [.ref (sa 0), .ref (ja 0), .ref (ta 0), .ref h, .ref q]))] : va_W), ([(h, .inr (0, [.ref g, .int (nI z)]))] : va_W), ([(g, .inl (cy 3, 6, (.inr (.inr (.inr (.inr (q_rf L)))))))] : va_W), plW cy L, stW cy sa v] sz) (va_A ([([(x, .inr (4, [.ref (sa 0), .ref (ja 0), .ref (ta 0), .ref h, .ref q]))] : va_W), ([(h, .inr (0, [.ref g, .int (nI z)]))] : va_W), ([(g, .inl (cy 3, 6, (.inr (.inr (.inr (.inr (q_rf L)))))))] : va_W), plW cy L, stW cy sa v] : List va_W).flatten sz)) 8 176 (va_A ([([(x, .inr (4, [.ref (sa 0), .ref (ja 0), .ref (ta 0), .ref h, .ref q]))] : va_W), ([(h, .inr (0, [.ref g, .int (nI z)]))] : va_W), ([(g, .inl (cy 3, 6, (.inr (.inr (.inr (.inr (q_rf L)))))))] : va_W), plW cy L, stW cy sa v] : List va_W).flatten sz) := by
  refine wl_ofI (cc := cX4_set) (maxL := 4) (ret := (some .int)) (by decide) rfl (Nat.le_of_ble_eq_true rfl) ?_
  intro p e s m below meth c ls A hx hb hr hts hown hlocks hml hnm hsz hAe hP hK hD hX hA hS hl
  have hl : lv_has ls 4 [(0, .ref x), (1, .int (nI i)), (2, .int (nI k))] := hl
  have lkf10 := hts (.fieldLink RX4 10 "WireLamps" "state" "LWireLamps$State;") (by decide +kernel)
  have lkf33 := hts (.fieldLink RX4 33 "WireLamps" "history" "LWireLamps$History;") (by decide +kernel)
  have lkf75 := hts (.fieldLink RX4 75 "WireLamps" "LOWEST_VALUE" "[I") (by decide +kernel)
  have lkf78 := hts (.fieldLink RX4 78 "WireLamps" "HIGHEST_VALUE" "[I") (by decide +kernel)
  have lkf83 := hts (.fieldLink RX4 83 "WireLamps$State" "settings" "[I") (by decide +kernel)
  have in_X2 : ∀ w ∈ u_ws RX2 TX2 13, w ∈ wsX4_set := by decide +kernel
  have in_X4 : ∀ w ∈ u_ws RX4 TX4 5, w ∈ wsX4_set := by decide +kernel
  rw [hAe] at hX
  obtain ⟨tl, hzl, htl⟩ := hX.2.2.2.2.1
  obtain ⟨th, hzh, hth⟩ := hX.2.2.2.2.2
  have hq3 := q_hi3_le i
  have hq2 := q_lo3_le i
  refine lv_iload_n hx hb dX4_set_0 rfl (lv_at hl 1 rfl) ?_
  refine wl_pS (As := [.int (nI i)]) (rest := []) ⟨hx, hb, hml, hown, hts⟩ (m_X4_isSetting l D cy (nI i) ) (va_cwS 1 hts gX4_set_X4_isSetting rfl rfl rfl (by decide +kernel) ⟨Nat.le_of_ble_eq_true rfl, Nat.le_of_ble_eq_true rfl⟩) hK hP [] rfl rfl hl.1 rfl (Nat.le_of_ble_eq_true rfl) dX4_set_1 ⟨Nat.le_of_ble_eq_true rfl, Nat.le_of_ble_eq_true rfl⟩ (fun r1 er1 => ?_)
  have er1 : r1 = if (¬ (nI i) < 0 ∧ ¬ 3 ≤ (nI i)) then 1 else 0 := er1
  refine wl_b_ne (tgt := 17) hx hb (¬ (nI i) < 0 ∧ ¬ 3 ≤ (nI i)) er1 dX4_set_4 (by decide) (fun c2 => ?_) (fun c2 => absurd (wl_rng (n := 3) rfl hi (by decide)) c2)
  refine lv_iload_n hx hb dX4_set_17 rfl (lv_at hl 2 rfl) ?_
  refine va_gets (v := .ref tl) hx hb hzl hS hown lkf75 (fun _ q => q) dX4_set_18 ?_
  refine lv_iload_n hx hb dX4_set_21 rfl (lv_at hl 1 rfl) ?_
  refine va_ti (v := .int (nI (q_lo3 i))) hx hb htl hS (vp_in_nI (by omega) (by decide)) (by rw [nI_clamp (by omega)]; exact q_lo3_v i) dX4_set_22 ?_
  refine wl_icmp_lt (tgt := 35) hx hb k (q_lo3 i) dX4_set_23 (by decide) (by omega) (by omega) (fun c3 => absurd c3 (by omega)) (fun c3 => ?_)
  refine lv_iload_n hx hb dX4_set_26 rfl (lv_at hl 2 rfl) ?_
  refine va_gets (v := .ref th) hx hb hzh hS hown lkf78 (fun _ q => q) dX4_set_27 ?_
  refine lv_iload_n hx hb dX4_set_30 rfl (lv_at hl 1 rfl) ?_
  refine va_ti (v := .int (nI (q_hi3 i))) hx hb hth hS (vp_in_nI (by omega) (by decide)) (by rw [nI_clamp (by omega)]; exact q_hi3_v i) dX4_set_31 ?_
  refine wl_icmp_le (tgt := 45) hx hb k (q_hi3 i) dX4_set_32 (by decide) (by omega) (by omega) (fun c4 => ?_) (fun c4 => absurd c4 (by omega))
  refine lv_aload_n hx hb dX4_set_45 rfl (lv_at hl 0 rfl) ?_
  refine wl_getf (C := RX4) (T := TX4) (N := 5) (ci := 4) (v := .ref h) hx hb hts in_X4 hown hK hP 0 0 rfl rfl rfl 3 (by decide) lkf33 rfl rfl dX4_set_46 ?_
  refine lv_aload_n hx hb dX4_set_49 rfl (lv_at hl 0 rfl) ?_
  refine wl_getf (C := RX4) (T := TX4) (N := 5) (ci := 4) (v := .ref (sa 0)) hx hb hts in_X4 hown hK hP 0 0 rfl rfl rfl 0 (by decide) lkf10 rfl rfl dX4_set_50 ?_
  have hP := wl_Po (bs' := [([(h, .inr (0, [.ref g, .int (nI z)]))] : va_W), ([(g, .inl (cy 3, 6, (.inr (.inr (.inr (.inr (q_rf L)))))))] : va_W), plW cy L, stW cy sa v, ([(x, .inr (4, [.ref (sa 0), .ref (ja 0), .ref (ta 0), .ref h, .ref q]))] : va_W)]) [1, 2, 3, 4, 0] 5 rfl (by decide) rfl hP
  have hD := wl_Do (bs' := [([(h, .inr (0, [.ref g, .int (nI z)]))] : va_W), ([(g, .inl (cy 3, 6, (.inr (.inr (.inr (.inr (q_rf L)))))))] : va_W), plW cy L, stW cy sa v, ([(x, .inr (4, [.ref (sa 0), .ref (ja 0), .ref (ta 0), .ref h, .ref q]))] : va_W)]) [1, 2, 3, 4, 0] 5 rfl (by decide) rfl hD
  refine wl_iVv (As := [.ref (sa 0)]) (rest := []) (bsC := [([(h, .inr (0, [.ref g, .int (nI z)]))] : va_W), ([(g, .inl (cy 3, 6, (.inr (.inr (.inr (.inr (q_rf L)))))))] : va_W), plW cy L, stW cy sa v]) (bsR := [([(x, .inr (4, [.ref (sa 0), .ref (ja 0), .ref (ta 0), .ref h, .ref q]))] : va_W)]) ⟨hx, hb, hml, hown, hts⟩ (m_X0_save l D cy h g L z sa v s.heap.size (by omega) (by omega)) (cwV 1 hts gX4_set_X0_save rfl rfl rfl (by decide +kernel) ⟨Nat.le_of_ble_eq_true rfl, Nat.le_of_ble_eq_true rfl⟩) wl_E_b (fun U _ hW => wl_E_w hW hX.1) hK hP hD hS hA rfl rfl rfl rfl rfl hl.1 rfl (Nat.le_of_ble_eq_true rfl) dX4_set_53 ⟨Nat.le_of_ble_eq_true rfl, Nat.le_of_ble_eq_true rfl⟩ (fun bs5 H locs e6 _ _ hP hD hS => ?_)
  obtain ⟨L17, z18, e6, f9, f10, f11⟩ := e6
  have e6 : bs5 = [([(h, .inr (0, [.ref g, .int (nI z18)]))] : va_W), ([(g, .inl (cy 3, 6, (.inr (.inr (.inr (.inr (q_rf L17)))))))] : va_W), plW cy L17, stW cy sa v] := e6
  subst e6
  refine W.widen (k := 8) (n := 176) (Nat.le_refl _) (Nat.le_refl _) ?_
  have hP : va_P D vwCl ([([(h, .inr (0, [.ref g, .int (nI z18)]))] : va_W), ([(g, .inl (cy 3, 6, (.inr (.inr (.inr (.inr (q_rf L17)))))))] : va_W), plW cy L17, stW cy sa v, ([(x, .inr (4, [.ref (sa 0), .ref (ja 0), .ref (ta 0), .ref h, .ref q]))] : va_W)] : List va_W).flatten H := hP
  have hD : va_D A ([([(h, .inr (0, [.ref g, .int (nI z18)]))] : va_W), ([(g, .inl (cy 3, 6, (.inr (.inr (.inr (.inr (q_rf L17)))))))] : va_W), plW cy L17, stW cy sa v, ([(x, .inr (4, [.ref (sa 0), .ref (ja 0), .ref (ta 0), .ref h, .ref q]))] : va_W)] : List va_W).flatten := hD
  have hP := wl_Po (bs' := [([(x, .inr (4, [.ref (sa 0), .ref (ja 0), .ref (ta 0), .ref h, .ref q]))] : va_W), ([(h, .inr (0, [.ref g, .int (nI z18)]))] : va_W), ([(g, .inl (cy 3, 6, (.inr (.inr (.inr (.inr (q_rf L17)))))))] : va_W), plW cy L17, stW cy sa v]) [4, 0, 1, 2, 3] 5 rfl (by decide) rfl hP
  have hD := wl_Do (bs' := [([(x, .inr (4, [.ref (sa 0), .ref (ja 0), .ref (ta 0), .ref h, .ref q]))] : va_W), ([(h, .inr (0, [.ref g, .int (nI z18)]))] : va_W), ([(g, .inl (cy 3, 6, (.inr (.inr (.inr (.inr (q_rf L17)))))))] : va_W), plW cy L17, stW cy sa v]) [4, 0, 1, 2, 3] 5 rfl (by decide) rfl hD
  refine lv_aload_n hx hb dX4_set_56 rfl (lv_at hl 0 rfl) ?_
  refine wl_getf (C := RX4) (T := TX4) (N := 5) (ci := 4) (v := .ref (sa 0)) hx hb hts in_X4 hown hK hP 0 0 rfl rfl rfl 0 (by decide) lkf10 rfl rfl dX4_set_57 ?_
  refine wl_getf (C := RX2) (T := TX2) (N := 13) (ci := 2) (v := .ref (sa 6)) hx hb hts in_X2 hown hK hP 4 0 rfl rfl rfl 5 (by decide) lkf83 rfl rfl dX4_set_60 ?_
  refine lv_iload_n hx hb dX4_set_63 rfl (lv_at hl 1 rfl) ?_
  refine wl_iald hx hb hK hP 4 6 rfl rfl i (by omega) (Nat.le_of_ble_eq_true rfl) dX4_set_64 ?_
  refine lv_istore_n (lv' := [(3, .int (v 5 i)), (0, .ref x), (1, .int (nI i)), (2, .int (nI k))]) hx hb dX4_set_65 rfl hl (by decide) rfl (fun ls hl => ?_)
  refine lv_aload_n hx hb dX4_set_66 rfl (lv_at hl 1 rfl) ?_
  refine wl_getf (C := RX4) (T := TX4) (N := 5) (ci := 4) (v := .ref (sa 0)) hx hb hts in_X4 hown hK hP 0 0 rfl rfl rfl 0 (by decide) lkf10 rfl rfl dX4_set_67 ?_
  refine wl_getf (C := RX2) (T := TX2) (N := 13) (ci := 2) (v := .ref (sa 6)) hx hb hts in_X2 hown hK hP 4 0 rfl rfl rfl 5 (by decide) lkf83 rfl rfl dX4_set_70 ?_
  refine lv_iload_n hx hb dX4_set_73 rfl (lv_at hl 2 rfl) ?_
  refine lv_iload_n hx hb dX4_set_74 rfl (lv_at hl 3 rfl) ?_
  refine wl_iast hx hb hK hP hD hS 4 6 rfl rfl i (by omega) (Nat.le_of_ble_eq_true rfl) dX4_set_75 (fun H locs hP hD hS => ?_)
  have hP : va_P D vwCl ([([(x, .inr (4, [.ref (sa 0), .ref (ja 0), .ref (ta 0), .ref h, .ref q]))] : va_W), ([(h, .inr (0, [.ref g, .int (nI z18)]))] : va_W), ([(g, .inl (cy 3, 6, (.inr (.inr (.inr (.inr (q_rf L17)))))))] : va_W), plW cy L17, stW cy sa (su v 5 i (nI k))] : List va_W).flatten H := hP
  have hD : va_D A ([([(x, .inr (4, [.ref (sa 0), .ref (ja 0), .ref (ta 0), .ref h, .ref q]))] : va_W), ([(h, .inr (0, [.ref g, .int (nI z18)]))] : va_W), ([(g, .inl (cy 3, 6, (.inr (.inr (.inr (.inr (q_rf L17)))))))] : va_W), plW cy L17, stW cy sa (su v 5 i (nI k))] : List va_W).flatten := hD
  refine lv_iload_n hx hb dX4_set_76 rfl (lv_at hl 0 rfl) ?_
  exact wl_Ri (bs := [([(x, .inr (4, [.ref (sa 0), .ref (ja 0), .ref (ta 0), .ref h, .ref q]))] : va_W), ([(h, .inr (0, [.ref g, .int (nI z18)]))] : va_W), ([(g, .inl (cy 3, 6, (.inr (.inr (.inr (.inr (q_rf L17)))))))] : va_W), plW cy L17, stW cy sa (su v 5 i (nI k))]) (r := (v 5 i)) hx hb hr hlocks hAe hP hD hS (by exact ⟨L17, z18, rfl, rfl, f9, f10, f11⟩) dX4_set_77
set_option maxHeartbeats 4000000 in
set_option maxRecDepth 100000 in
theorem m_X4_gap (l : Launch) (D : va_G) (cy : Nat → ClassId) (x : Nat) (sa ja ta : Nat → Nat) (h q : Nat) (g : Nat) (L : HsL) (z : Nat) (w : Nat → Nat → Int32) (v : Nat → Nat → Int32) (n : Nat) (sz : Nat) (hz : z ≤ L.length) (hL : L.length ≤ 6) (hn : v 7 0 = nI n) (hn2 : n ≤ 120) : Met l yX4_gap wsX4_gap ({ frames := 5, cells := 8, slots := 176, locals := 112 } : Room) (wl_ic D cy (wl_E) [([(x, .inr (4, [.ref (sa 0), .ref (ja 0), .ref (ta 0), .ref h, .ref q]))] : va_W), ([(h, .inr (0, [.ref g, .int (nI z)]))] : va_W), ([(g, .inl (cy 3, 6, (.inr (.inr (.inr (.inr (q_rf L)))))))] : va_W), plW cy L, joW cy ja w, stW cy sa v] sz [.ref x]) (va_Qi (fun (r : Int32) (bs : List va_W) => ∃ (L1 : HsL) (z1 : Nat), r = q_lc v (q_gt v w n 8) 8 ∧ bs = [([(x, .inr (4, [.ref (sa 0), .ref (ja 0), .ref (ta 0), .ref h, .ref q]))] : va_W), ([(h, .inr (0, [.ref g, .int (nI z1)]))] : va_W), ([(g, .inl (cy 3, 6, (.inr (.inr (.inr (.inr (q_rf L1)))))))] : va_W), plW cy L1, joW cy ja (q_gt v w n 8), stW cy sa (q_gp v (q_gt v w n 8))] ∧ z1 ≤ L1.length ∧ L1.length ≤ 6 ∧ (L1.take z1).map Prod.snd = q_push ((L.take z).map Prod.snd) v) (wl_ib D [([(x, .inr (4, [.ref (sa 0), .ref (ja 0), .ref (ta 0), .ref h, .ref q]))] : va_W), ([(h, .inr (0, [.ref g, .int (nI z)]))] : va_W), ([(g, .inl (cy 3, 6, (.inr (.inr (.inr (.inr (q_rf L)))))))] : va_W), plW cy L, joW cy ja w, stW cy sa v] sz) (va_A ([([(x, .inr (4, [.ref (sa 0), .ref (ja 0), .ref (ta 0), .ref h, .ref q]))] : va_W), ([(h, .inr (0, [.ref g, .int (nI z)]))] : va_W), ([(g, .inl (cy 3, 6, (.inr (.inr (.inr (.inr (q_rf L)))))))] : va_W), plW cy L, joW cy ja w, stW cy sa v] : List va_W).flatten sz)) 8 176 (va_A ([([(x, .inr (4, [.ref (sa 0), .ref (ja 0), .ref (ta 0), .ref h, .ref q]))] : va_W), ([(h, .inr (0, [.ref g, .int (nI z)]))] : va_W), ([(g, .inl (cy 3, 6, (.inr (.inr (.inr (.inr (q_rf L)))))))] : va_W), plW cy L, joW cy ja w, stW cy sa v] : List va_W).flatten sz) := by
  refine wl_ofI (cc := cX4_gap) (maxL := 1) (ret := (some .int)) (by decide) rfl (Nat.le_of_ble_eq_true rfl) ?_
  intro p e s m below meth c ls A hx hb hr hts hown hlocks hml hnm hsz hAe hP hK hD hX hA hS hl
  have hl : lv_has ls 1 [(0, .ref x)] := hl
  have lkf10 := hts (.fieldLink RX4 10 "WireLamps" "state" "LWireLamps$State;") (by decide +kernel)
  have lkf33 := hts (.fieldLink RX4 33 "WireLamps" "history" "LWireLamps$History;") (by decide +kernel)
  have in_X4 : ∀ w ∈ u_ws RX4 TX4 5, w ∈ wsX4_gap := by decide +kernel
  refine lv_aload_n hx hb dX4_gap_0 rfl (lv_at hl 0 rfl) ?_
  refine wl_getf (C := RX4) (T := TX4) (N := 5) (ci := 4) (v := .ref h) hx hb hts in_X4 hown hK hP 0 0 rfl rfl rfl 3 (by decide) lkf33 rfl rfl dX4_gap_1 ?_
  refine lv_aload_n hx hb dX4_gap_4 rfl (lv_at hl 0 rfl) ?_
  refine wl_getf (C := RX4) (T := TX4) (N := 5) (ci := 4) (v := .ref (sa 0)) hx hb hts in_X4 hown hK hP 0 0 rfl rfl rfl 0 (by decide) lkf10 rfl rfl dX4_gap_5 ?_
  have hP := wl_Po (bs' := [([(h, .inr (0, [.ref g, .int (nI z)]))] : va_W), ([(g, .inl (cy 3, 6, (.inr (.inr (.inr (.inr (q_rf L)))))))] : va_W), plW cy L, stW cy sa v, ([(x, .inr (4, [.ref (sa 0), .ref (ja 0), .ref (ta 0), .ref h, .ref q]))] : va_W), joW cy ja w]) [1, 2, 3, 5, 0, 4] 6 rfl (by decide) rfl hP
  have hD := wl_Do (bs' := [([(h, .inr (0, [.ref g, .int (nI z)]))] : va_W), ([(g, .inl (cy 3, 6, (.inr (.inr (.inr (.inr (q_rf L)))))))] : va_W), plW cy L, stW cy sa v, ([(x, .inr (4, [.ref (sa 0), .ref (ja 0), .ref (ta 0), .ref h, .ref q]))] : va_W), joW cy ja w]) [1, 2, 3, 5, 0, 4] 6 rfl (by decide) rfl hD
  refine wl_iVv (As := [.ref (sa 0)]) (rest := []) (bsC := [([(h, .inr (0, [.ref g, .int (nI z)]))] : va_W), ([(g, .inl (cy 3, 6, (.inr (.inr (.inr (.inr (q_rf L)))))))] : va_W), plW cy L, stW cy sa v]) (bsR := [([(x, .inr (4, [.ref (sa 0), .ref (ja 0), .ref (ta 0), .ref h, .ref q]))] : va_W), joW cy ja w]) ⟨hx, hb, hml, hown, hts⟩ (m_X0_save l D cy h g L z sa v s.heap.size (by omega) (by omega)) (cwV 1 hts gX4_gap_X0_save rfl rfl rfl (by decide +kernel) ⟨Nat.le_of_ble_eq_true rfl, Nat.le_of_ble_eq_true rfl⟩) wl_E_b (fun U _ hW => wl_E_w hW hX) hK hP hD hS hA rfl rfl rfl rfl rfl hl.1 rfl (Nat.le_of_ble_eq_true rfl) dX4_gap_8 ⟨Nat.le_of_ble_eq_true rfl, Nat.le_of_ble_eq_true rfl⟩ (fun bs1 H locs e2 _ _ hP hD hS => ?_)
  obtain ⟨L13, z14, e2, f5, f6, f7⟩ := e2
  have e2 : bs1 = [([(h, .inr (0, [.ref g, .int (nI z14)]))] : va_W), ([(g, .inl (cy 3, 6, (.inr (.inr (.inr (.inr (q_rf L13)))))))] : va_W), plW cy L13, stW cy sa v] := e2
  subst e2
  refine W.widen (k := 8) (n := 176) (Nat.le_refl _) (Nat.le_refl _) ?_
  have hP : va_P D vwCl ([([(h, .inr (0, [.ref g, .int (nI z14)]))] : va_W), ([(g, .inl (cy 3, 6, (.inr (.inr (.inr (.inr (q_rf L13)))))))] : va_W), plW cy L13, stW cy sa v, ([(x, .inr (4, [.ref (sa 0), .ref (ja 0), .ref (ta 0), .ref h, .ref q]))] : va_W), joW cy ja w] : List va_W).flatten H := hP
  have hD : va_D A ([([(h, .inr (0, [.ref g, .int (nI z14)]))] : va_W), ([(g, .inl (cy 3, 6, (.inr (.inr (.inr (.inr (q_rf L13)))))))] : va_W), plW cy L13, stW cy sa v, ([(x, .inr (4, [.ref (sa 0), .ref (ja 0), .ref (ta 0), .ref h, .ref q]))] : va_W), joW cy ja w] : List va_W).flatten := hD
  have hP := wl_Po (bs' := [([(x, .inr (4, [.ref (sa 0), .ref (ja 0), .ref (ta 0), .ref h, .ref q]))] : va_W), ([(h, .inr (0, [.ref g, .int (nI z14)]))] : va_W), ([(g, .inl (cy 3, 6, (.inr (.inr (.inr (.inr (q_rf L13)))))))] : va_W), plW cy L13, joW cy ja w, stW cy sa v]) [4, 0, 1, 2, 5, 3] 6 rfl (by decide) rfl hP
  have hD := wl_Do (bs' := [([(x, .inr (4, [.ref (sa 0), .ref (ja 0), .ref (ta 0), .ref h, .ref q]))] : va_W), ([(h, .inr (0, [.ref g, .int (nI z14)]))] : va_W), ([(g, .inl (cy 3, 6, (.inr (.inr (.inr (.inr (q_rf L13)))))))] : va_W), plW cy L13, joW cy ja w, stW cy sa v]) [4, 0, 1, 2, 5, 3] 6 rfl (by decide) rfl hD
  refine lv_aload_n hx hb dX4_gap_11 rfl (lv_at hl 0 rfl) ?_
  have hP := wl_Po (bs' := [([(x, .inr (4, [.ref (sa 0), .ref (ja 0), .ref (ta 0), .ref h, .ref q]))] : va_W), joW cy ja w, stW cy sa v, ([(h, .inr (0, [.ref g, .int (nI z14)]))] : va_W), ([(g, .inl (cy 3, 6, (.inr (.inr (.inr (.inr (q_rf L13)))))))] : va_W), plW cy L13]) [0, 4, 5, 1, 2, 3] 6 rfl (by decide) rfl hP
  have hD := wl_Do (bs' := [([(x, .inr (4, [.ref (sa 0), .ref (ja 0), .ref (ta 0), .ref h, .ref q]))] : va_W), joW cy ja w, stW cy sa v, ([(h, .inr (0, [.ref g, .int (nI z14)]))] : va_W), ([(g, .inl (cy 3, 6, (.inr (.inr (.inr (.inr (q_rf L13)))))))] : va_W), plW cy L13]) [0, 4, 5, 1, 2, 3] 6 rfl (by decide) rfl hD
  refine wl_iV (As := []) (rest := []) (bsC := [([(x, .inr (4, [.ref (sa 0), .ref (ja 0), .ref (ta 0), .ref h, .ref q]))] : va_W), joW cy ja w, stW cy sa v]) (bsR := [([(h, .inr (0, [.ref g, .int (nI z14)]))] : va_W), ([(g, .inl (cy 3, 6, (.inr (.inr (.inr (.inr (q_rf L13)))))))] : va_W), plW cy L13]) ⟨hx, hb, hml, hown, hts⟩ (m_X4_letGapBe l D cy x sa ja ta h q w v n H.size hn (by omega)) (cwV 0 hts gX4_gap_X4_letGapBe rfl rfl rfl (by decide +kernel) ⟨Nat.le_of_ble_eq_true rfl, Nat.le_of_ble_eq_true rfl⟩) wl_xT (fun _ _ _ => trivial) hK hP hD hS hA rfl rfl rfl rfl rfl hl.1 rfl (Nat.le_of_ble_eq_true rfl) dX4_gap_12 ⟨Nat.le_of_ble_eq_true rfl, Nat.le_of_ble_eq_true rfl⟩ (fun r8 bs9 H locs e10 _ _ hP hD hS => ?_)
  obtain ⟨er8, e10⟩ : r8 = q_lc v (q_gt v w n 8) 8 ∧ bs9 = [([(x, .inr (4, [.ref (sa 0), .ref (ja 0), .ref (ta 0), .ref h, .ref q]))] : va_W), joW cy ja (q_gt v w n 8), stW cy sa (q_gp v (q_gt v w n 8))] := e10
  subst e10
  subst er8
  have hP : va_P D vwCl ([([(x, .inr (4, [.ref (sa 0), .ref (ja 0), .ref (ta 0), .ref h, .ref q]))] : va_W), joW cy ja (q_gt v w n 8), stW cy sa (q_gp v (q_gt v w n 8)), ([(h, .inr (0, [.ref g, .int (nI z14)]))] : va_W), ([(g, .inl (cy 3, 6, (.inr (.inr (.inr (.inr (q_rf L13)))))))] : va_W), plW cy L13] : List va_W).flatten H := hP
  have hD : va_D A ([([(x, .inr (4, [.ref (sa 0), .ref (ja 0), .ref (ta 0), .ref h, .ref q]))] : va_W), joW cy ja (q_gt v w n 8), stW cy sa (q_gp v (q_gt v w n 8)), ([(h, .inr (0, [.ref g, .int (nI z14)]))] : va_W), ([(g, .inl (cy 3, 6, (.inr (.inr (.inr (.inr (q_rf L13)))))))] : va_W), plW cy L13] : List va_W).flatten := hD
  have hP := wl_Po (bs' := [([(x, .inr (4, [.ref (sa 0), .ref (ja 0), .ref (ta 0), .ref h, .ref q]))] : va_W), ([(h, .inr (0, [.ref g, .int (nI z14)]))] : va_W), ([(g, .inl (cy 3, 6, (.inr (.inr (.inr (.inr (q_rf L13)))))))] : va_W), plW cy L13, joW cy ja (q_gt v w n 8), stW cy sa (q_gp v (q_gt v w n 8))]) [0, 3, 4, 5, 1, 2] 6 rfl (by decide) rfl hP
  have hD := wl_Do (bs' := [([(x, .inr (4, [.ref (sa 0), .ref (ja 0), .ref (ta 0), .ref h, .ref q]))] : va_W), ([(h, .inr (0, [.ref g, .int (nI z14)]))] : va_W), ([(g, .inl (cy 3, 6, (.inr (.inr (.inr (.inr (q_rf L13)))))))] : va_W), plW cy L13, joW cy ja (q_gt v w n 8), stW cy sa (q_gp v (q_gt v w n 8))]) [0, 3, 4, 5, 1, 2] 6 rfl (by decide) rfl hD
  exact wl_Ri (bs := [([(x, .inr (4, [.ref (sa 0), .ref (ja 0), .ref (ta 0), .ref h, .ref q]))] : va_W), ([(h, .inr (0, [.ref g, .int (nI z14)]))] : va_W), ([(g, .inl (cy 3, 6, (.inr (.inr (.inr (.inr (q_rf L13)))))))] : va_W), plW cy L13, joW cy ja (q_gt v w n 8), stW cy sa (q_gp v (q_gt v w n 8))]) (r := (q_lc v (q_gt v w n 8) 8)) hx hb hr hlocks hAe hP hD hS (by exact ⟨L13, z14, rfl, rfl, f5, f6, f7⟩) dX4_gap_15
set_option maxHeartbeats 4000000 in
set_option maxRecDepth 100000 in
theorem m_X4_drop (l : Launch) (D : va_G) (cy : Nat → ClassId) (x : Nat) (sa ja ta : Nat → Nat) (h q : Nat) (g : Nat) (L : HsL) (z : Nat) (v : Nat → Nat → Int32) (sz : Nat) (hz : z ≤ L.length) (hL : L.length ≤ 6) : Met l yX4_drop wsX4_drop ({ frames := 3, cells := 8, slots := 176, locals := 67 } : Room) (wl_ic D cy (wl_E) [([(x, .inr (4, [.ref (sa 0), .ref (ja 0), .ref (ta 0), .ref h, .ref q]))] : va_W), ([(h, .inr (0, [.ref g, .int (nI z)]))] : va_W), ([(g, .inl (cy 3, 6, (.inr (.inr (.inr (.inr (q_rf L)))))))] : va_W), plW cy L, stW cy sa v] sz [.ref x]) (va_Qi (fun (r : Int32) (bs : List va_W) => ∃ (L1 : HsL) (z1 : Nat), r = v 7 0 ∧ bs = [([(x, .inr (4, [.ref (sa 0), .ref (ja 0), .ref (ta 0), .ref h, .ref q]))] : va_W), ([(h, .inr (0, [.ref g, .int (nI z1)]))] : va_W), ([(g, .inl (cy 3, 6, (.inr (.inr (.inr (.inr (q_rf L1)))))))] : va_W), plW cy L1, stW cy sa (su (su v 7 4 (v 7 4 + v 7 0)) 7 0 0)] ∧ z1 ≤ L1.length ∧ L1.length ≤ 6 ∧ (L1.take z1).map Prod.snd = q_push ((L.take z).map Prod.snd) v) (wl_ib D [([(x, .inr (4, [.ref (sa 0), .ref (ja 0), .ref (ta 0), .ref h, .ref q]))] : va_W), ([(h, .inr (0, [.ref g, .int (nI z)]))] : va_W), ([(g, .inl (cy 3, 6, (.inr (.inr (.inr (.inr (q_rf L)))))))] : va_W), plW cy L, stW cy sa v] sz) (va_A ([([(x, .inr (4, [.ref (sa 0), .ref (ja 0), .ref (ta 0), .ref h, .ref q]))] : va_W), ([(h, .inr (0, [.ref g, .int (nI z)]))] : va_W), ([(g, .inl (cy 3, 6, (.inr (.inr (.inr (.inr (q_rf L)))))))] : va_W), plW cy L, stW cy sa v] : List va_W).flatten sz)) 8 176 (va_A ([([(x, .inr (4, [.ref (sa 0), .ref (ja 0), .ref (ta 0), .ref h, .ref q]))] : va_W), ([(h, .inr (0, [.ref g, .int (nI z)]))] : va_W), ([(g, .inl (cy 3, 6, (.inr (.inr (.inr (.inr (q_rf L)))))))] : va_W), plW cy L, stW cy sa v] : List va_W).flatten sz) := by
  refine wl_ofI (cc := cX4_drop) (maxL := 2) (ret := (some .int)) (by decide) rfl (Nat.le_of_ble_eq_true rfl) ?_
  intro p e s m below meth c ls A hx hb hr hts hown hlocks hml hnm hsz hAe hP hK hD hX hA hS hl
  have hl : lv_has ls 2 [(0, .ref x)] := hl
  have lkf10 := hts (.fieldLink RX4 10 "WireLamps" "state" "LWireLamps$State;") (by decide +kernel)
  have lkf114 := hts (.fieldLink RX4 114 "WireLamps$State" "dropped" "I") (by decide +kernel)
  have lkf33 := hts (.fieldLink RX4 33 "WireLamps" "history" "LWireLamps$History;") (by decide +kernel)
  have lkf99 := hts (.fieldLink RX4 99 "WireLamps$State" "pulseCount" "I") (by decide +kernel)
  have in_X2 : ∀ w ∈ u_ws RX2 TX2 13, w ∈ wsX4_drop := by decide +kernel
  have in_X4 : ∀ w ∈ u_ws RX4 TX4 5, w ∈ wsX4_drop := by decide +kernel
  refine lv_aload_n hx hb dX4_drop_0 rfl (lv_at hl 0 rfl) ?_
  refine wl_getf (C := RX4) (T := TX4) (N := 5) (ci := 4) (v := .ref h) hx hb hts in_X4 hown hK hP 0 0 rfl rfl rfl 3 (by decide) lkf33 rfl rfl dX4_drop_1 ?_
  refine lv_aload_n hx hb dX4_drop_4 rfl (lv_at hl 0 rfl) ?_
  refine wl_getf (C := RX4) (T := TX4) (N := 5) (ci := 4) (v := .ref (sa 0)) hx hb hts in_X4 hown hK hP 0 0 rfl rfl rfl 0 (by decide) lkf10 rfl rfl dX4_drop_5 ?_
  have hP := wl_Po (bs' := [([(h, .inr (0, [.ref g, .int (nI z)]))] : va_W), ([(g, .inl (cy 3, 6, (.inr (.inr (.inr (.inr (q_rf L)))))))] : va_W), plW cy L, stW cy sa v, ([(x, .inr (4, [.ref (sa 0), .ref (ja 0), .ref (ta 0), .ref h, .ref q]))] : va_W)]) [1, 2, 3, 4, 0] 5 rfl (by decide) rfl hP
  have hD := wl_Do (bs' := [([(h, .inr (0, [.ref g, .int (nI z)]))] : va_W), ([(g, .inl (cy 3, 6, (.inr (.inr (.inr (.inr (q_rf L)))))))] : va_W), plW cy L, stW cy sa v, ([(x, .inr (4, [.ref (sa 0), .ref (ja 0), .ref (ta 0), .ref h, .ref q]))] : va_W)]) [1, 2, 3, 4, 0] 5 rfl (by decide) rfl hD
  refine wl_iVv (As := [.ref (sa 0)]) (rest := []) (bsC := [([(h, .inr (0, [.ref g, .int (nI z)]))] : va_W), ([(g, .inl (cy 3, 6, (.inr (.inr (.inr (.inr (q_rf L)))))))] : va_W), plW cy L, stW cy sa v]) (bsR := [([(x, .inr (4, [.ref (sa 0), .ref (ja 0), .ref (ta 0), .ref h, .ref q]))] : va_W)]) ⟨hx, hb, hml, hown, hts⟩ (m_X0_save l D cy h g L z sa v s.heap.size (by omega) (by omega)) (cwV 1 hts gX4_drop_X0_save rfl rfl rfl (by decide +kernel) ⟨Nat.le_of_ble_eq_true rfl, Nat.le_of_ble_eq_true rfl⟩) wl_E_b (fun U _ hW => wl_E_w hW hX) hK hP hD hS hA rfl rfl rfl rfl rfl hl.1 rfl (Nat.le_of_ble_eq_true rfl) dX4_drop_8 ⟨Nat.le_of_ble_eq_true rfl, Nat.le_of_ble_eq_true rfl⟩ (fun bs1 H locs e2 _ _ hP hD hS => ?_)
  obtain ⟨L13, z14, e2, f5, f6, f7⟩ := e2
  have e2 : bs1 = [([(h, .inr (0, [.ref g, .int (nI z14)]))] : va_W), ([(g, .inl (cy 3, 6, (.inr (.inr (.inr (.inr (q_rf L13)))))))] : va_W), plW cy L13, stW cy sa v] := e2
  subst e2
  refine W.widen (k := 8) (n := 176) (Nat.le_refl _) (Nat.le_refl _) ?_
  have hP : va_P D vwCl ([([(h, .inr (0, [.ref g, .int (nI z14)]))] : va_W), ([(g, .inl (cy 3, 6, (.inr (.inr (.inr (.inr (q_rf L13)))))))] : va_W), plW cy L13, stW cy sa v, ([(x, .inr (4, [.ref (sa 0), .ref (ja 0), .ref (ta 0), .ref h, .ref q]))] : va_W)] : List va_W).flatten H := hP
  have hD : va_D A ([([(h, .inr (0, [.ref g, .int (nI z14)]))] : va_W), ([(g, .inl (cy 3, 6, (.inr (.inr (.inr (.inr (q_rf L13)))))))] : va_W), plW cy L13, stW cy sa v, ([(x, .inr (4, [.ref (sa 0), .ref (ja 0), .ref (ta 0), .ref h, .ref q]))] : va_W)] : List va_W).flatten := hD
  have hP := wl_Po (bs' := [([(x, .inr (4, [.ref (sa 0), .ref (ja 0), .ref (ta 0), .ref h, .ref q]))] : va_W), ([(h, .inr (0, [.ref g, .int (nI z14)]))] : va_W), ([(g, .inl (cy 3, 6, (.inr (.inr (.inr (.inr (q_rf L13)))))))] : va_W), plW cy L13, stW cy sa v]) [4, 0, 1, 2, 3] 5 rfl (by decide) rfl hP
  have hD := wl_Do (bs' := [([(x, .inr (4, [.ref (sa 0), .ref (ja 0), .ref (ta 0), .ref h, .ref q]))] : va_W), ([(h, .inr (0, [.ref g, .int (nI z14)]))] : va_W), ([(g, .inl (cy 3, 6, (.inr (.inr (.inr (.inr (q_rf L13)))))))] : va_W), plW cy L13, stW cy sa v]) [4, 0, 1, 2, 3] 5 rfl (by decide) rfl hD
  refine lv_aload_n hx hb dX4_drop_11 rfl (lv_at hl 0 rfl) ?_
  refine wl_getf (C := RX4) (T := TX4) (N := 5) (ci := 4) (v := .ref (sa 0)) hx hb hts in_X4 hown hK hP 0 0 rfl rfl rfl 0 (by decide) lkf10 rfl rfl dX4_drop_12 ?_
  refine wl_getf (C := RX2) (T := TX2) (N := 13) (ci := 2) (v := .int (v 7 0)) hx hb hts in_X2 hown hK hP 4 0 rfl rfl rfl 7 (by decide) lkf99 rfl rfl dX4_drop_15 ?_
  refine lv_istore_n (lv' := [(1, .int (v 7 0)), (0, .ref x)]) hx hb dX4_drop_18 rfl hl (by decide) rfl (fun ls hl => ?_)
  refine lv_aload_n hx hb dX4_drop_19 rfl (lv_at hl 1 rfl) ?_
  refine wl_getf (C := RX4) (T := TX4) (N := 5) (ci := 4) (v := .ref (sa 0)) hx hb hts in_X4 hown hK hP 0 0 rfl rfl rfl 0 (by decide) lkf10 rfl rfl dX4_drop_20 ?_
  refine lv_dup hx hb dX4_drop_23 rfl ?_
  refine wl_getf (C := RX2) (T := TX2) (N := 13) (ci := 2) (v := .int (v 7 4)) hx hb hts in_X2 hown hK hP 4 0 rfl rfl rfl 11 (by decide) lkf114 rfl rfl dX4_drop_24 ?_
  refine lv_iload_n hx hb dX4_drop_27 rfl (lv_at hl 0 rfl) ?_
  refine lv_iadd hx hb dX4_drop_28 ?_
  refine wl_putf (C := RX2) (T := TX2) (N := 13) (ci := 2) (v := .int ((v 7 4) + (v 7 0))) hx hb hts in_X2 tyX2 tyX2_ok nmX2 hown hK hP hD hS 4 0 rfl rfl rfl 11 (by decide) lkf114 rfl rfl rfl rfl (Nat.le_of_ble_eq_true rfl) dX4_drop_29 (fun H locs hP hD hS => ?_)
  have hP : va_P D vwCl ([([(x, .inr (4, [.ref (sa 0), .ref (ja 0), .ref (ta 0), .ref h, .ref q]))] : va_W), ([(h, .inr (0, [.ref g, .int (nI z14)]))] : va_W), ([(g, .inl (cy 3, 6, (.inr (.inr (.inr (.inr (q_rf L13)))))))] : va_W), plW cy L13, stW cy sa (su v 7 4 ((v 7 4) + (v 7 0)))] : List va_W).flatten H := hP
  have hD : va_D A ([([(x, .inr (4, [.ref (sa 0), .ref (ja 0), .ref (ta 0), .ref h, .ref q]))] : va_W), ([(h, .inr (0, [.ref g, .int (nI z14)]))] : va_W), ([(g, .inl (cy 3, 6, (.inr (.inr (.inr (.inr (q_rf L13)))))))] : va_W), plW cy L13, stW cy sa (su v 7 4 ((v 7 4) + (v 7 0)))] : List va_W).flatten := hD
  refine lv_aload_n hx hb dX4_drop_32 rfl (lv_at hl 1 rfl) ?_
  refine wl_getf (C := RX4) (T := TX4) (N := 5) (ci := 4) (v := .ref (sa 0)) hx hb hts in_X4 hown hK hP 0 0 rfl rfl rfl 0 (by decide) lkf10 rfl rfl dX4_drop_33 ?_
  refine lv_iconst (v := 0) hx hb dX4_drop_36 (by decide) ?_
  refine wl_putf (C := RX2) (T := TX2) (N := 13) (ci := 2) (v := .int 0) hx hb hts in_X2 tyX2 tyX2_ok nmX2 hown hK hP hD hS 4 0 rfl rfl rfl 7 (by decide) lkf99 rfl rfl rfl rfl (Nat.le_of_ble_eq_true rfl) dX4_drop_37 (fun H locs hP hD hS => ?_)
  have hP : va_P D vwCl ([([(x, .inr (4, [.ref (sa 0), .ref (ja 0), .ref (ta 0), .ref h, .ref q]))] : va_W), ([(h, .inr (0, [.ref g, .int (nI z14)]))] : va_W), ([(g, .inl (cy 3, 6, (.inr (.inr (.inr (.inr (q_rf L13)))))))] : va_W), plW cy L13, stW cy sa (su (su v 7 4 ((v 7 4) + (v 7 0))) 7 0 0)] : List va_W).flatten H := hP
  have hD : va_D A ([([(x, .inr (4, [.ref (sa 0), .ref (ja 0), .ref (ta 0), .ref h, .ref q]))] : va_W), ([(h, .inr (0, [.ref g, .int (nI z14)]))] : va_W), ([(g, .inl (cy 3, 6, (.inr (.inr (.inr (.inr (q_rf L13)))))))] : va_W), plW cy L13, stW cy sa (su (su v 7 4 ((v 7 4) + (v 7 0))) 7 0 0)] : List va_W).flatten := hD
  refine lv_iload_n hx hb dX4_drop_40 rfl (lv_at hl 0 rfl) ?_
  exact wl_Ri (bs := [([(x, .inr (4, [.ref (sa 0), .ref (ja 0), .ref (ta 0), .ref h, .ref q]))] : va_W), ([(h, .inr (0, [.ref g, .int (nI z14)]))] : va_W), ([(g, .inl (cy 3, 6, (.inr (.inr (.inr (.inr (q_rf L13)))))))] : va_W), plW cy L13, stW cy sa (su (su v 7 4 ((v 7 4) + (v 7 0))) 7 0 0)]) (r := (v 7 0)) hx hb hr hlocks hAe hP hD hS (by exact ⟨L13, z14, rfl, rfl, f5, f6, f7⟩) dX4_drop_41
