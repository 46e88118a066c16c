/-! the law's call: what returns -/
set_option maxHeartbeats 4000000 in
set_option maxRecDepth 100000 in
theorem m_c_mode (l : Launch) (D : va_G) (cy : Nat → ClassId) (x : Nat) (sa ja ta : Nat → Nat) (h q : Nat) (g : Nat) (L : HsL) (z : Nat) (v : Nat → Nat → Int32) (i k : Nat) (sz : Nat) (hz : z ≤ L.length) (hL : L.length ≤ 6) (hi : i < 8) (hk : k ≤ 3) : Met l yL_call wsL_call ({ frames := 4, cells := 8, slots := 176, locals := 90 } : Room) (wl_ic D cy (wl_T9 (va_A ([([(x, .inr (4, [.ref (sa 0), .ref (ja 0), .ref (ta 0), .ref h, .ref q]))] : va_W), ([(h, .inr (0, [.ref g, .int (nI z)]))] : va_W), ([(g, .inl (cy 3, 6, (.inr (.inr (.inr (.inr (q_rf L)))))))] : va_W), plW cy L, stW cy sa v] : List va_W).flatten sz)) [([(x, .inr (4, [.ref (sa 0), .ref (ja 0), .ref (ta 0), .ref h, .ref q]))] : va_W), ([(h, .inr (0, [.ref g, .int (nI z)]))] : va_W), ([(g, .inl (cy 3, 6, (.inr (.inr (.inr (.inr (q_rf L)))))))] : va_W), plW cy L, stW cy sa v] sz [.ref x, .int (nI 0), .int (nI i), .int (nI k)]) (va_Qi (fun (r : Int32) (bs : List va_W) => ∃ (L1 : HsL) (z1 : Nat), r = v 0 i ∧ bs = [([(x, .inr (4, [.ref (sa 0), .ref (ja 0), .ref (ta 0), .ref h, .ref q]))] : va_W), ([(h, .inr (0, [.ref g, .int (nI z1)]))] : va_W), ([(g, .inl (cy 3, 6, (.inr (.inr (.inr (.inr (q_rf L1)))))))] : va_W), plW cy L1, stW cy sa (su v 0 i (nI k))] ∧ z1 ≤ L1.length ∧ L1.length ≤ 6 ∧ (L1.take z1).map Prod.snd = q_push ((L.take z).map Prod.snd) v) (wl_ib D [([(x, .inr (4, [.ref (sa 0), .ref (ja 0), .ref (ta 0), .ref h, .ref q]))] : va_W), ([(h, .inr (0, [.ref g, .int (nI z)]))] : va_W), ([(g, .inl (cy 3, 6, (.inr (.inr (.inr (.inr (q_rf L)))))))] : va_W), plW cy L, stW cy sa v] sz) (va_A ([([(x, .inr (4, [.ref (sa 0), .ref (ja 0), .ref (ta 0), .ref h, .ref q]))] : va_W), ([(h, .inr (0, [.ref g, .int (nI z)]))] : va_W), ([(g, .inl (cy 3, 6, (.inr (.inr (.inr (.inr (q_rf L)))))))] : va_W), plW cy L, stW cy sa v] : List va_W).flatten sz)) 8 176 (va_A ([([(x, .inr (4, [.ref (sa 0), .ref (ja 0), .ref (ta 0), .ref h, .ref q]))] : va_W), ([(h, .inr (0, [.ref g, .int (nI z)]))] : va_W), ([(g, .inl (cy 3, 6, (.inr (.inr (.inr (.inr (q_rf L)))))))] : va_W), plW cy L, stW cy sa v] : List va_W).flatten sz) := by
  refine wl_ofH (cc := cL_call) (maxL := 5) (ret := (some .int)) (by decide) rfl (Nat.le_of_ble_eq_true rfl) ?_
  intro p e s m below meth c ls A hx hb hr hts hown hlocks hml htab hsz hAe hP hK hD hX hA hS hl
  rw [hAe] at hX
  have hl : lv_has ls 5 [(0, .ref x), (1, .int (nI 0)), (2, .int (nI i)), (3, .int (nI k))] := hl
  refine lv_iload_n hx hb dL_call_0 rfl (lv_at hl 1 rfl) ?_
  refine wl_if_ne (tgt := 13) hx hb 0 dL_call_1 (by decide) (by omega) (fun c1 => absurd c1 (by decide)) (fun c1 => ?_)
  refine lv_aload_n hx hb dL_call_4 rfl (lv_at hl 0 rfl) ?_
  refine lv_iload_n hx hb dL_call_5 rfl (lv_at hl 2 rfl) ?_
  refine lv_iload_n hx hb dL_call_6 rfl (lv_at hl 3 rfl) ?_
  refine wl_iV (As := [.int (nI i), .int (nI k)]) (rest := []) (bsC := [([(x, .inr (4, [.ref (sa 0), .ref (ja 0), .ref (ta 0), .ref h, .ref q]))] : va_W), ([(h, .inr (0, [.ref g, .int (nI z)]))] : va_W), ([(g, .inl (cy 3, 6, (.inr (.inr (.inr (.inr (q_rf L)))))))] : va_W), plW cy L, stW cy sa v]) (bsR := []) ⟨hx, hb, hml, hown, hts⟩ (m_X4_mode l D cy x sa ja ta h q g L z v i k s.heap.size hz hL hi hk) (cwV 2 hts gL_call_X4_mode rfl rfl rfl (by decide +kernel) ⟨Nat.le_of_ble_eq_true rfl, Nat.le_of_ble_eq_true rfl⟩) wl_E_b (fun U _ hW => wl_E_w hW hX.1.1) hK hP hD hS hA rfl rfl rfl rfl rfl hl.1 rfl (Nat.le_of_ble_eq_true rfl) dL_call_7 ⟨Nat.le_of_ble_eq_true rfl, Nat.le_of_ble_eq_true rfl⟩ (fun r2 bs3 H locs e4 _ _ hP hD hS => ?_)
  obtain ⟨L15, z16, er2, e4, f7, f8, f9⟩ := e4
  have e4 : bs3 = [([(x, .inr (4, [.ref (sa 0), .ref (ja 0), .ref (ta 0), .ref h, .ref q]))] : va_W), ([(h, .inr (0, [.ref g, .int (nI z16)]))] : va_W), ([(g, .inl (cy 3, 6, (.inr (.inr (.inr (.inr (q_rf L15)))))))] : va_W), plW cy L15, stW cy sa (su v 0 i (nI k))] := e4
  subst e4
  have er2 : r2 = v 0 i := er2
  subst er2
  refine W.widen (k := 8) (n := 176) (Nat.le_refl _) (Nat.le_refl _) ?_
  have hP : va_P D vwCl ([([(x, .inr (4, [.ref (sa 0), .ref (ja 0), .ref (ta 0), .ref h, .ref q]))] : va_W), ([(h, .inr (0, [.ref g, .int (nI z16)]))] : va_W), ([(g, .inl (cy 3, 6, (.inr (.inr (.inr (.inr (q_rf L15)))))))] : va_W), plW cy L15, stW cy sa (su v 0 i (nI k))] : List va_W).flatten H := hP
  have hD : va_D A ([([(x, .inr (4, [.ref (sa 0), .ref (ja 0), .ref (ta 0), .ref h, .ref q]))] : va_W), ([(h, .inr (0, [.ref g, .int (nI z16)]))] : va_W), ([(g, .inl (cy 3, 6, (.inr (.inr (.inr (.inr (q_rf L15)))))))] : va_W), plW cy L15, stW cy sa (su v 0 i (nI k))] : List va_W).flatten := hD
  refine lv_goto (tgt := 125) hx hb dL_call_10 (by decide) ?_
  exact wl_Ri (bs := [([(x, .inr (4, [.ref (sa 0), .ref (ja 0), .ref (ta 0), .ref h, .ref q]))] : va_W), ([(h, .inr (0, [.ref g, .int (nI z16)]))] : va_W), ([(g, .inl (cy 3, 6, (.inr (.inr (.inr (.inr (q_rf L15)))))))] : va_W), plW cy L15, stW cy sa (su v 0 i (nI k))]) (r := (v 0 i)) hx hb hr hlocks hAe hP hD hS (by exact ⟨L15, z16, rfl, rfl, f7, f8, f9⟩) dL_call_125
set_option maxHeartbeats 4000000 in
set_option maxRecDepth 100000 in
theorem m_c_loss (l : Launch) (D : va_G) (cy : Nat → ClassId) (x : Nat) (sa ja ta : Nat → Nat) (h q : Nat) (g : Nat) (L : HsL) (z : Nat) (v : Nat → Nat → Int32) (i k : Nat) (sz : Nat) (hz : z ≤ L.length) (hL : L.length ≤ 6) (hi : i < 8) (hk : k ≤ 6) : Met l yL_call wsL_call ({ frames := 4, cells := 8, slots := 176, locals := 90 } : Room) (wl_ic D cy (wl_T9 (va_A ([([(x, .inr (4, [.ref (sa 0), .ref (ja 0), .ref (ta 0), .ref h, .ref q]))] : va_W), ([(h, .inr (0, [.ref g, .int (nI z)]))] : va_W), ([(g, .inl (cy 3, 6, (.inr (.inr (.inr (.inr (q_rf L)))))))] : va_W), plW cy L, stW cy sa v] : List va_W).flatten sz)) [([(x, .inr (4, [.ref (sa 0), .ref (ja 0), .ref (ta 0), .ref h, .ref q]))] : va_W), ([(h, .inr (0, [.ref g, .int (nI z)]))] : va_W), ([(g, .inl (cy 3, 6, (.inr (.inr (.inr (.inr (q_rf L)))))))] : va_W), plW cy L, stW cy sa v] sz [.ref x, .int (nI 1), .int (nI i), .int (nI k)]) (va_Qi (fun (r : Int32) (bs : List va_W) => ∃ (L1 : HsL) (z1 : Nat), r = v 1 i ∧ bs = [([(x, .inr (4, [.ref (sa 0), .ref (ja 0), .ref (ta 0), .ref h, .ref q]))] : va_W), ([(h, .inr (0, [.ref g, .int (nI z1)]))] : va_W), ([(g, .inl (cy 3, 6, (.inr (.inr (.inr (.inr (q_rf L1)))))))] : va_W), plW cy L1, stW cy sa (su v 1 i (nI k))] ∧ z1 ≤ L1.length ∧ L1.length ≤ 6 ∧ (L1.take z1).map Prod.snd = q_push ((L.take z).map Prod.snd) v) (wl_ib D [([(x, .inr (4, [.ref (sa 0), .ref (ja 0), .ref (ta 0), .ref h, .ref q]))] : va_W), ([(h, .inr (0, [.ref g, .int (nI z)]))] : va_W), ([(g, .inl (cy 3, 6, (.inr (.inr (.inr (.inr (q_rf L)))))))] : va_W), plW cy L, stW cy sa v] sz) (va_A ([([(x, .inr (4, [.ref (sa 0), .ref (ja 0), .ref (ta 0), .ref h, .ref q]))] : va_W), ([(h, .inr (0, [.ref g, .int (nI z)]))] : va_W), ([(g, .inl (cy 3, 6, (.inr (.inr (.inr (.inr (q_rf L)))))))] : va_W), plW cy L, stW cy sa v] : List va_W).flatten sz)) 8 176 (va_A ([([(x, .inr (4, [.ref (sa 0), .ref (ja 0), .ref (ta 0), .ref h, .ref q]))] : va_W), ([(h, .inr (0, [.ref g, .int (nI z)]))] : va_W), ([(g, .inl (cy 3, 6, (.inr (.inr (.inr (.inr (q_rf L)))))))] : va_W), plW cy L, stW cy sa v] : List va_W).flatten sz) := by
  refine wl_ofH (cc := cL_call) (maxL := 5) (ret := (some .int)) (by decide) rfl (Nat.le_of_ble_eq_true rfl) ?_
  intro p e s m below meth c ls A hx hb hr hts hown hlocks hml htab hsz hAe hP hK hD hX hA hS hl
  rw [hAe] at hX
  have hl : lv_has ls 5 [(0, .ref x), (1, .int (nI 1)), (2, .int (nI i)), (3, .int (nI k))] := hl
  refine lv_iload_n hx hb dL_call_0 rfl (lv_at hl 1 rfl) ?_
  refine wl_if_ne (tgt := 13) hx hb 1 dL_call_1 (by decide) (by omega) (fun c1 => ?_) (fun c1 => absurd c1 (by decide))
  refine lv_iload_n hx hb dL_call_13 rfl (lv_at hl 1 rfl) ?_
  refine lv_iconst (v := 1) hx hb dL_call_14 (by decide) ?_
  refine wl_icmp_ne (tgt := 27) hx hb 1 1 dL_call_15 (by decide) (by omega) (by omega) (fun c2 => absurd c2 (by decide)) (fun c2 => ?_)
  refine lv_aload_n hx hb dL_call_18 rfl (lv_at hl 0 rfl) ?_
  refine lv_iload_n hx hb dL_call_19 rfl (lv_at hl 2 rfl) ?_
  refine lv_iload_n hx hb dL_call_20 rfl (lv_at hl 3 rfl) ?_
  refine wl_iV (As := [.int (nI i), .int (nI k)]) (rest := []) (bsC := [([(x, .inr (4, [.ref (sa 0), .ref (ja 0), .ref (ta 0), .ref h, .ref q]))] : va_W), ([(h, .inr (0, [.ref g, .int (nI z)]))] : va_W), ([(g, .inl (cy 3, 6, (.inr (.inr (.inr (.inr (q_rf L)))))))] : va_W), plW cy L, stW cy sa v]) (bsR := []) ⟨hx, hb, hml, hown, hts⟩ (m_X4_loss l D cy x sa ja ta h q g L z v i k s.heap.size hz hL hi hk) (cwV 2 hts gL_call_X4_loss rfl rfl rfl (by decide +kernel) ⟨Nat.le_of_ble_eq_true rfl, Nat.le_of_ble_eq_true rfl⟩) wl_E_b (fun U _ hW => wl_E_w hW hX.1.1) hK hP hD hS hA rfl rfl rfl rfl rfl hl.1 rfl (Nat.le_of_ble_eq_true rfl) dL_call_21 ⟨Nat.le_of_ble_eq_true rfl, Nat.le_of_ble_eq_true rfl⟩ (fun r3 bs4 H locs e5 _ _ hP hD hS => ?_)
  obtain ⟨L16, z17, er3, e5, f8, f9, f10⟩ := e5
  have e5 : bs4 = [([(x, .inr (4, [.ref (sa 0), .ref (ja 0), .ref (ta 0), .ref h, .ref q]))] : va_W), ([(h, .inr (0, [.ref g, .int (nI z17)]))] : va_W), ([(g, .inl (cy 3, 6, (.inr (.inr (.inr (.inr (q_rf L16)))))))] : va_W), plW cy L16, stW cy sa (su v 1 i (nI k))] := e5
  subst e5
  have er3 : r3 = v 1 i := er3
  subst er3
  refine W.widen (k := 8) (n := 176) (Nat.le_refl _) (Nat.le_refl _) ?_
  have hP : va_P D vwCl ([([(x, .inr (4, [.ref (sa 0), .ref (ja 0), .ref (ta 0), .ref h, .ref q]))] : va_W), ([(h, .inr (0, [.ref g, .int (nI z17)]))] : va_W), ([(g, .inl (cy 3, 6, (.inr (.inr (.inr (.inr (q_rf L16)))))))] : va_W), plW cy L16, stW cy sa (su v 1 i (nI k))] : List va_W).flatten H := hP
  have hD : va_D A ([([(x, .inr (4, [.ref (sa 0), .ref (ja 0), .ref (ta 0), .ref h, .ref q]))] : va_W), ([(h, .inr (0, [.ref g, .int (nI z17)]))] : va_W), ([(g, .inl (cy 3, 6, (.inr (.inr (.inr (.inr (q_rf L16)))))))] : va_W), plW cy L16, stW cy sa (su v 1 i (nI k))] : List va_W).flatten := hD
  refine lv_goto (tgt := 125) hx hb dL_call_24 (by decide) ?_
  exact wl_Ri (bs := [([(x, .inr (4, [.ref (sa 0), .ref (ja 0), .ref (ta 0), .ref h, .ref q]))] : va_W), ([(h, .inr (0, [.ref g, .int (nI z17)]))] : va_W), ([(g, .inl (cy 3, 6, (.inr (.inr (.inr (.inr (q_rf L16)))))))] : va_W), plW cy L16, stW cy sa (su v 1 i (nI k))]) (r := (v 1 i)) hx hb hr hlocks hAe hP hD hS (by exact ⟨L16, z17, rfl, rfl, f8, f9, f10⟩) dL_call_125
set_option maxHeartbeats 4000000 in
set_option maxRecDepth 100000 in
theorem m_c_set (l : Launch) (D : va_G) (cy : Nat → ClassId) (x : Nat) (sa ja ta : Nat → Nat) (h q : Nat) (g : Nat) (L : HsL) (z : Nat) (v : Nat → Nat → Int32) (i k : Nat) (sz : Nat) (hz : z ≤ L.length) (hL : L.length ≤ 6) (hi : i < 3) (hk : q_lo3 i ≤ k ∧ k ≤ q_hi3 i) : Met l yL_call wsL_call ({ frames := 4, cells := 8, slots := 176, locals := 90 } : Room) (wl_ic D cy (wl_T9 (va_A ([([(x, .inr (4, [.ref (sa 0), .ref (ja 0), .ref (ta 0), .ref h, .ref q]))] : va_W), ([(h, .inr (0, [.ref g, .int (nI z)]))] : va_W), ([(g, .inl (cy 3, 6, (.inr (.inr (.inr (.inr (q_rf L)))))))] : va_W), plW cy L, stW cy sa v] : List va_W).flatten sz)) [([(x, .inr (4, [.ref (sa 0), .ref (ja 0), .ref (ta 0), .ref h, .ref q]))] : va_W), ([(h, .inr (0, [.ref g, .int (nI z)]))] : va_W), ([(g, .inl (cy 3, 6, (.inr (.inr (.inr (.inr (q_rf L)))))))] : va_W), plW cy L, stW cy sa v] sz [.ref x, .int (nI 2), .int (nI i), .int (nI k)]) (va_Qi (fun (r : Int32) (bs : List va_W) => ∃ (L1 : HsL) (z1 : Nat), r = v 5 i ∧ bs = [([(x, .inr (4, [.ref (sa 0), .ref (ja 0), .ref (ta 0), .ref h, .ref q]))] : va_W), ([(h, .inr (0, [.ref g, .int (nI z1)]))] : va_W), ([(g, .inl (cy 3, 6, (.inr (.inr (.inr (.inr (q_rf L1)))))))] : va_W), plW cy L1, stW cy sa (su v 5 i (nI k))] ∧ z1 ≤ L1.length ∧ L1.length ≤ 6 ∧ (L1.take z1).map Prod.snd = q_push ((L.take z).map Prod.snd) v) (wl_ib D [([(x, .inr (4, [.ref (sa 0), .ref (ja 0), .ref (ta 0), .ref h, .ref q]))] : va_W), ([(h, .inr (0, [.ref g, .int (nI z)]))] : va_W), ([(g, .inl (cy 3, 6, (.inr (.inr (.inr (.inr (q_rf L)))))))] : va_W), plW cy L, stW cy sa v] sz) (va_A ([([(x, .inr (4, [.ref (sa 0), .ref (ja 0), .ref (ta 0), .ref h, .ref q]))] : va_W), ([(h, .inr (0, [.ref g, .int (nI z)]))] : va_W), ([(g, .inl (cy 3, 6, (.inr (.inr (.inr (.inr (q_rf L)))))))] : va_W), plW cy L, stW cy sa v] : List va_W).flatten sz)) 8 176 (va_A ([([(x, .inr (4, [.ref (sa 0), .ref (ja 0), .ref (ta 0), .ref h, .ref q]))] : va_W), ([(h, .inr (0, [.ref g, .int (nI z)]))] : va_W), ([(g, .inl (cy 3, 6, (.inr (.inr (.inr (.inr (q_rf L)))))))] : va_W), plW cy L, stW cy sa v] : List va_W).flatten sz) := by
  refine wl_ofH (cc := cL_call) (maxL := 5) (ret := (some .int)) (by decide) rfl (Nat.le_of_ble_eq_true rfl) ?_
  intro p e s m below meth c ls A hx hb hr hts hown hlocks hml htab hsz hAe hP hK hD hX hA hS hl
  rw [hAe] at hX
  have hl : lv_has ls 5 [(0, .ref x), (1, .int (nI 2)), (2, .int (nI i)), (3, .int (nI k))] := hl
  refine lv_iload_n hx hb dL_call_0 rfl (lv_at hl 1 rfl) ?_
  refine wl_if_ne (tgt := 13) hx hb 2 dL_call_1 (by decide) (by omega) (fun c1 => ?_) (fun c1 => absurd c1 (by decide))
  refine lv_iload_n hx hb dL_call_13 rfl (lv_at hl 1 rfl) ?_
  refine lv_iconst (v := 1) hx hb dL_call_14 (by decide) ?_
  refine wl_icmp_ne (tgt := 27) hx hb 2 1 dL_call_15 (by decide) (by omega) (by omega) (fun c2 => ?_) (fun c2 => absurd c2 (by decide))
  refine lv_iload_n hx hb dL_call_27 rfl (lv_at hl 1 rfl) ?_
  refine lv_iconst (v := 2) hx hb dL_call_28 (by decide) ?_
  refine wl_icmp_ne (tgt := 41) hx hb 2 2 dL_call_29 (by decide) (by omega) (by omega) (fun c3 => absurd c3 (by decide)) (fun c3 => ?_)
  refine lv_aload_n hx hb dL_call_32 rfl (lv_at hl 0 rfl) ?_
  refine lv_iload_n hx hb dL_call_33 rfl (lv_at hl 2 rfl) ?_
  refine lv_iload_n hx hb dL_call_34 rfl (lv_at hl 3 rfl) ?_
  refine wl_iV (As := [.int (nI i), .int (nI k)]) (rest := []) (bsC := [([(x, .inr (4, [.ref (sa 0), .ref (ja 0), .ref (ta 0), .ref h, .ref q]))] : va_W), ([(h, .inr (0, [.ref g, .int (nI z)]))] : va_W), ([(g, .inl (cy 3, 6, (.inr (.inr (.inr (.inr (q_rf L)))))))] : va_W), plW cy L, stW cy sa v]) (bsR := []) ⟨hx, hb, hml, hown, hts⟩ (m_X4_set l D cy x sa ja ta h q g L z v i k s.heap.size hz hL hi hk) (cwV 2 hts gL_call_X4_set rfl rfl rfl (by decide +kernel) ⟨Nat.le_of_ble_eq_true rfl, Nat.le_of_ble_eq_true rfl⟩) wl_T_b (fun U hU hW => wl_T_w hU hW hS (wl_freeB (bsC := [([(x, .inr (4, [.ref (sa 0), .ref (ja 0), .ref (ta 0), .ref h, .ref q]))] : va_W), ([(h, .inr (0, [.ref g, .int (nI z)]))] : va_W), ([(g, .inl (cy 3, 6, (.inr (.inr (.inr (.inr (q_rf L)))))))] : va_W), plW cy L, stW cy sa v]) (bsR := []) hD hS hA) hX.1) hK hP hD hS hA rfl rfl rfl rfl rfl hl.1 rfl (Nat.le_of_ble_eq_true rfl) dL_call_35 ⟨Nat.le_of_ble_eq_true rfl, Nat.le_of_ble_eq_true rfl⟩ (fun r4 bs5 H locs e6 _ _ hP hD hS => ?_)
  obtain ⟨L17, z18, er4, e6, f9, f10, f11⟩ := e6
  have e6 : bs5 = [([(x, .inr (4, [.ref (sa 0), .ref (ja 0), .ref (ta 0), .ref h, .ref q]))] : va_W), ([(h, .inr (0, [.ref g, .int (nI z18)]))] : va_W), ([(g, .inl (cy 3, 6, (.inr (.inr (.inr (.inr (q_rf L17)))))))] : va_W), plW cy L17, stW cy sa (su v 5 i (nI k))] := e6
  subst e6
  have er4 : r4 = v 5 i := er4
  subst er4
  refine W.widen (k := 8) (n := 176) (Nat.le_refl _) (Nat.le_refl _) ?_
  have hP : va_P D vwCl ([([(x, .inr (4, [.ref (sa 0), .ref (ja 0), .ref (ta 0), .ref h, .ref q]))] : va_W), ([(h, .inr (0, [.ref g, .int (nI z18)]))] : va_W), ([(g, .inl (cy 3, 6, (.inr (.inr (.inr (.inr (q_rf L17)))))))] : va_W), plW cy L17, stW cy sa (su v 5 i (nI k))] : List va_W).flatten H := hP
  have hD : va_D A ([([(x, .inr (4, [.ref (sa 0), .ref (ja 0), .ref (ta 0), .ref h, .ref q]))] : va_W), ([(h, .inr (0, [.ref g, .int (nI z18)]))] : va_W), ([(g, .inl (cy 3, 6, (.inr (.inr (.inr (.inr (q_rf L17)))))))] : va_W), plW cy L17, stW cy sa (su v 5 i (nI k))] : List va_W).flatten := hD
  refine lv_goto (tgt := 125) hx hb dL_call_38 (by decide) ?_
  exact wl_Ri (bs := [([(x, .inr (4, [.ref (sa 0), .ref (ja 0), .ref (ta 0), .ref h, .ref q]))] : va_W), ([(h, .inr (0, [.ref g, .int (nI z18)]))] : va_W), ([(g, .inl (cy 3, 6, (.inr (.inr (.inr (.inr (q_rf L17)))))))] : va_W), plW cy L17, stW cy sa (su v 5 i (nI k))]) (r := (v 5 i)) hx hb hr hlocks hAe hP hD hS (by exact ⟨L17, z18, rfl, rfl, f9, f10, f11⟩) dL_call_125
set_option maxHeartbeats 4000000 in
set_option maxRecDepth 100000 in
theorem m_c_keepE (l : Launch) (D : va_G) (cy : Nat → ClassId) (x : Nat) (sa ja ta : Nat → Nat) (h q : Nat) (f : Nat → Option Nat) (v : Nat → Nat → Int32) (b : Nat → Nat) (u : Nat → Nat → Int32) (i : Nat) (n9 : Nat) (yb0 : Int32) (sz : Nat) (hi : i < 2) (hf : f i = some (b 0)) (hn9 : v 7 0 = nI n9) : Met l yL_call wsL_call ({ frames := 3, cells := 8, slots := 176, locals := 67 } : Room) (wl_ic D cy (wl_T9 (va_A ([([(x, .inr (4, [.ref (sa 0), .ref (ja 0), .ref (ta 0), .ref h, .ref q]))] : va_W), ([(q, .inl (cy 3, 2, (.inr (.inr (.inr (.inr f))))))] : va_W), stW cy b u, stW cy sa v] : List va_W).flatten sz)) [([(x, .inr (4, [.ref (sa 0), .ref (ja 0), .ref (ta 0), .ref h, .ref q]))] : va_W), ([(q, .inl (cy 3, 2, (.inr (.inr (.inr (.inr f))))))] : va_W), stW cy b u, stW cy sa v] sz [.ref x, .int (nI 7), .int (nI i), .int yb0]) (va_Qi (fun (r : Int32) (bs : List va_W) => r = nI n9 ∧ bs = [([(x, .inr (4, [.ref (sa 0), .ref (ja 0), .ref (ta 0), .ref h, .ref q]))] : va_W), ([(q, .inl (cy 3, 2, (.inr (.inr (.inr (.inr f))))))] : va_W), stW cy b v, stW cy sa v]) (wl_ib D [([(x, .inr (4, [.ref (sa 0), .ref (ja 0), .ref (ta 0), .ref h, .ref q]))] : va_W), ([(q, .inl (cy 3, 2, (.inr (.inr (.inr (.inr f))))))] : va_W), stW cy b u, stW cy sa v] sz) (va_A ([([(x, .inr (4, [.ref (sa 0), .ref (ja 0), .ref (ta 0), .ref h, .ref q]))] : va_W), ([(q, .inl (cy 3, 2, (.inr (.inr (.inr (.inr f))))))] : va_W), stW cy b u, stW cy sa v] : List va_W).flatten sz)) 8 176 (va_A ([([(x, .inr (4, [.ref (sa 0), .ref (ja 0), .ref (ta 0), .ref h, .ref q]))] : va_W), ([(q, .inl (cy 3, 2, (.inr (.inr (.inr (.inr f))))))] : va_W), stW cy b u, stW cy sa v] : List va_W).flatten sz) := by
  refine wl_ofH (cc := cL_call) (maxL := 5) (ret := (some .int)) (by decide) rfl (Nat.le_of_ble_eq_true rfl) ?_
  intro p e s m below meth c ls A hx hb hr hts hown hlocks hml htab hsz hAe hP hK hD hX hA hS hl
  rw [hAe] at hX
  have hl : lv_has ls 5 [(0, .ref x), (1, .int (nI 7)), (2, .int (nI i)), (3, .int yb0)] := hl
  refine lv_iload_n hx hb dL_call_0 rfl (lv_at hl 1 rfl) ?_
  refine wl_if_ne (tgt := 13) hx hb 7 dL_call_1 (by decide) (by omega) (fun c1 => ?_) (fun c1 => absurd c1 (by decide))
  refine lv_iload_n hx hb dL_call_13 rfl (lv_at hl 1 rfl) ?_
  refine lv_iconst (v := 1) hx hb dL_call_14 (by decide) ?_
  refine wl_icmp_ne (tgt := 27) hx hb 7 1 dL_call_15 (by decide) (by omega) (by omega) (fun c2 => ?_) (fun c2 => absurd c2 (by decide))
  refine lv_iload_n hx hb dL_call_27 rfl (lv_at hl 1 rfl) ?_
  refine lv_iconst (v := 2) hx hb dL_call_28 (by decide) ?_
  refine wl_icmp_ne (tgt := 41) hx hb 7 2 dL_call_29 (by decide) (by omega) (by omega) (fun c3 => ?_) (fun c3 => absurd c3 (by decide))
  refine lv_iload_n hx hb dL_call_41 rfl (lv_at hl 1 rfl) ?_
  refine lv_iconst (v := 3) hx hb dL_call_42 (by decide) ?_
  refine wl_icmp_ne (tgt := 54) hx hb 7 3 dL_call_43 (by decide) (by omega) (by omega) (fun c4 => ?_) (fun c4 => absurd c4 (by decide))
  refine lv_iload_n hx hb dL_call_54 rfl (lv_at hl 1 rfl) ?_
  refine lv_iconst (v := 4) hx hb dL_call_55 (by decide) ?_
  refine wl_icmp_ne (tgt := 67) hx hb 7 4 dL_call_56 (by decide) (by omega) (by omega) (fun c5 => ?_) (fun c5 => absurd c5 (by decide))
  refine lv_iload_n hx hb dL_call_67 rfl (lv_at hl 1 rfl) ?_
  refine lv_iconst (v := 5) hx hb dL_call_68 (by decide) ?_
  refine wl_icmp_ne (tgt := 80) hx hb 7 5 dL_call_69 (by decide) (by omega) (by omega) (fun c6 => ?_) (fun c6 => absurd c6 (by decide))
  refine lv_iload_n hx hb dL_call_80 rfl (lv_at hl 1 rfl) ?_
  refine lv_bipush (v := 6) hx hb dL_call_81 (by decide) ?_
  refine wl_icmp_ne (tgt := 93) hx hb 7 6 dL_call_83 (by decide) (by omega) (by omega) (fun c7 => ?_) (fun c7 => absurd c7 (by decide))
  refine lv_iload_n hx hb dL_call_93 rfl (lv_at hl 1 rfl) ?_
  refine lv_bipush (v := 7) hx hb dL_call_94 (by decide) ?_
  refine wl_icmp_ne (tgt := 107) hx hb 7 7 dL_call_96 (by decide) (by omega) (by omega) (fun c8 => absurd c8 (by decide)) (fun c8 => ?_)
  refine lv_aload_n hx hb dL_call_99 rfl (lv_at hl 0 rfl) ?_
  refine lv_iload_n hx hb dL_call_100 rfl (lv_at hl 2 rfl) ?_
  refine wl_iV (As := [.int (nI i)]) (rest := []) (bsC := [([(x, .inr (4, [.ref (sa 0), .ref (ja 0), .ref (ta 0), .ref h, .ref q]))] : va_W), ([(q, .inl (cy 3, 2, (.inr (.inr (.inr (.inr f))))))] : va_W), stW cy b u, stW cy sa v]) (bsR := []) ⟨hx, hb, hml, hown, hts⟩ (m_X4_keep l D cy x sa ja ta h q f v b u i s.heap.size hi hf) (cwV 1 hts gL_call_X4_keep rfl rfl rfl (by decide +kernel) ⟨Nat.le_of_ble_eq_true rfl, Nat.le_of_ble_eq_true rfl⟩) wl_xT (fun _ _ _ => trivial) hK hP hD hS hA rfl rfl rfl rfl rfl hl.1 rfl (Nat.le_of_ble_eq_true rfl) dL_call_101 ⟨Nat.le_of_ble_eq_true rfl, Nat.le_of_ble_eq_true rfl⟩ (fun r9 bs10 H locs e11 _ _ hP hD hS => ?_)
  obtain ⟨er9, e11⟩ : r9 = v 7 0 ∧ bs10 = [([(x, .inr (4, [.ref (sa 0), .ref (ja 0), .ref (ta 0), .ref h, .ref q]))] : va_W), ([(q, .inl (cy 3, 2, (.inr (.inr (.inr (.inr f))))))] : va_W), stW cy b v, stW cy sa v] := e11
  subst e11
  subst er9
  have hP : va_P D vwCl ([([(x, .inr (4, [.ref (sa 0), .ref (ja 0), .ref (ta 0), .ref h, .ref q]))] : va_W), ([(q, .inl (cy 3, 2, (.inr (.inr (.inr (.inr f))))))] : va_W), stW cy b v, stW cy sa v] : List va_W).flatten H := hP
  have hD : va_D A ([([(x, .inr (4, [.ref (sa 0), .ref (ja 0), .ref (ta 0), .ref h, .ref q]))] : va_W), ([(q, .inl (cy 3, 2, (.inr (.inr (.inr (.inr f))))))] : va_W), stW cy b v, stW cy sa v] : List va_W).flatten := hD
  refine lv_goto (tgt := 125) hx hb dL_call_104 (by decide) ?_
  refine W.widen (k := 8) (n := 176) (by omega) (by omega) ?_
  exact wl_Ri (bs := [([(x, .inr (4, [.ref (sa 0), .ref (ja 0), .ref (ta 0), .ref h, .ref q]))] : va_W), ([(q, .inl (cy 3, 2, (.inr (.inr (.inr (.inr f))))))] : va_W), stW cy b v, stW cy sa v]) (r := (v 7 0)) hx hb hr hlocks hAe hP hD hS (by exact ⟨hn9, rfl⟩) dL_call_125
set_option maxHeartbeats 4000000 in
set_option maxRecDepth 100000 in
theorem m_c_keepN (l : Launch) (D : va_G) (cy : Nat → ClassId) (x : Nat) (sa ja ta : Nat → Nat) (h q : Nat) (f : Nat → Option Nat) (v : Nat → Nat → Int32) (i : Nat) (n9 : Nat) (yb0 : Int32) (sz : Nat) (hi : i < 2) (hf : f i = none) (hn9 : v 7 0 = nI n9) : Met l yL_call wsL_call ({ frames := 3, cells := 8, slots := 176, locals := 67 } : Room) (wl_ic D cy (wl_T9 (va_A ([([(x, .inr (4, [.ref (sa 0), .ref (ja 0), .ref (ta 0), .ref h, .ref q]))] : va_W), ([(q, .inl (cy 3, 2, (.inr (.inr (.inr (.inr f))))))] : va_W), stW cy sa v] : List va_W).flatten sz)) [([(x, .inr (4, [.ref (sa 0), .ref (ja 0), .ref (ta 0), .ref h, .ref q]))] : va_W), ([(q, .inl (cy 3, 2, (.inr (.inr (.inr (.inr f))))))] : va_W), stW cy sa v] sz [.ref x, .int (nI 7), .int (nI i), .int yb0]) (va_Qi (fun (r : Int32) (bs : List va_W) => ∃ (b : Nat → Nat), r = nI n9 ∧ bs = [([(x, .inr (4, [.ref (sa 0), .ref (ja 0), .ref (ta 0), .ref h, .ref q]))] : va_W), ([(q, .inl (cy 3, 2, (.inr (.inr (.inr (.inr (va_up f i (some (b 0)))))))))] : va_W), stW cy b v, stW cy sa v]) (wl_ib D [([(x, .inr (4, [.ref (sa 0), .ref (ja 0), .ref (ta 0), .ref h, .ref q]))] : va_W), ([(q, .inl (cy 3, 2, (.inr (.inr (.inr (.inr f))))))] : va_W), stW cy sa v] sz) (va_A ([([(x, .inr (4, [.ref (sa 0), .ref (ja 0), .ref (ta 0), .ref h, .ref q]))] : va_W), ([(q, .inl (cy 3, 2, (.inr (.inr (.inr (.inr f))))))] : va_W), stW cy sa v] : List va_W).flatten sz)) 8 176 (va_A ([([(x, .inr (4, [.ref (sa 0), .ref (ja 0), .ref (ta 0), .ref h, .ref q]))] : va_W), ([(q, .inl (cy 3, 2, (.inr (.inr (.inr (.inr f))))))] : va_W), stW cy sa v] : List va_W).flatten sz) := by
  refine wl_ofH (cc := cL_call) (maxL := 5) (ret := (some .int)) (by decide) rfl (Nat.le_of_ble_eq_true rfl) ?_
  intro p e s m below meth c ls A hx hb hr hts hown hlocks hml htab hsz hAe hP hK hD hX hA hS hl
  rw [hAe] at hX
  have hl : lv_has ls 5 [(0, .ref x), (1, .int (nI 7)), (2, .int (nI i)), (3, .int yb0)] := hl
  refine lv_iload_n hx hb dL_call_0 rfl (lv_at hl 1 rfl) ?_
  refine wl_if_ne (tgt := 13) hx hb 7 dL_call_1 (by decide) (by omega) (fun c1 => ?_) (fun c1 => absurd c1 (by decide))
  refine lv_iload_n hx hb dL_call_13 rfl (lv_at hl 1 rfl) ?_
  refine lv_iconst (v := 1) hx hb dL_call_14 (by decide) ?_
  refine wl_icmp_ne (tgt := 27) hx hb 7 1 dL_call_15 (by decide) (by omega) (by omega) (fun c2 => ?_) (fun c2 => absurd c2 (by decide))
  refine lv_iload_n hx hb dL_call_27 rfl (lv_at hl 1 rfl) ?_
  refine lv_iconst (v := 2) hx hb dL_call_28 (by decide) ?_
  refine wl_icmp_ne (tgt := 41) hx hb 7 2 dL_call_29 (by decide) (by omega) (by omega) (fun c3 => ?_) (fun c3 => absurd c3 (by decide))
  refine lv_iload_n hx hb dL_call_41 rfl (lv_at hl 1 rfl) ?_
  refine lv_iconst (v := 3) hx hb dL_call_42 (by decide) ?_
  refine wl_icmp_ne (tgt := 54) hx hb 7 3 dL_call_43 (by decide) (by omega) (by omega) (fun c4 => ?_) (fun c4 => absurd c4 (by decide))
  refine lv_iload_n hx hb dL_call_54 rfl (lv_at hl 1 rfl) ?_
  refine lv_iconst (v := 4) hx hb dL_call_55 (by decide) ?_
  refine wl_icmp_ne (tgt := 67) hx hb 7 4 dL_call_56 (by decide) (by omega) (by omega) (fun c5 => ?_) (fun c5 => absurd c5 (by decide))
  refine lv_iload_n hx hb dL_call_67 rfl (lv_at hl 1 rfl) ?_
  refine lv_iconst (v := 5) hx hb dL_call_68 (by decide) ?_
  refine wl_icmp_ne (tgt := 80) hx hb 7 5 dL_call_69 (by decide) (by omega) (by omega) (fun c6 => ?_) (fun c6 => absurd c6 (by decide))
  refine lv_iload_n hx hb dL_call_80 rfl (lv_at hl 1 rfl) ?_
  refine lv_bipush (v := 6) hx hb dL_call_81 (by decide) ?_
  refine wl_icmp_ne (tgt := 93) hx hb 7 6 dL_call_83 (by decide) (by omega) (by omega) (fun c7 => ?_) (fun c7 => absurd c7 (by decide))
  refine lv_iload_n hx hb dL_call_93 rfl (lv_at hl 1 rfl) ?_
  refine lv_bipush (v := 7) hx hb dL_call_94 (by decide) ?_
  refine wl_icmp_ne (tgt := 107) hx hb 7 7 dL_call_96 (by decide) (by omega) (by omega) (fun c8 => absurd c8 (by decide)) (fun c8 => ?_)
  refine lv_aload_n hx hb dL_call_99 rfl (lv_at hl 0 rfl) ?_
  refine lv_iload_n hx hb dL_call_100 rfl (lv_at hl 2 rfl) ?_
  refine wl_iV (As := [.int (nI i)]) (rest := []) (bsC := [([(x, .inr (4, [.ref (sa 0), .ref (ja 0), .ref (ta 0), .ref h, .ref q]))] : va_W), ([(q, .inl (cy 3, 2, (.inr (.inr (.inr (.inr f))))))] : va_W), stW cy sa v]) (bsR := []) ⟨hx, hb, hml, hown, hts⟩ (m_X4_keepN l D cy x sa ja ta h q f v i s.heap.size hi hf) (cwV 1 hts gL_call_X4_keep rfl rfl rfl (by decide +kernel) ⟨Nat.le_of_ble_eq_true rfl, Nat.le_of_ble_eq_true rfl⟩) wl_E_b (fun U _ hW => wl_E_w hW hX.1.1) hK hP hD hS hA rfl rfl rfl rfl rfl hl.1 rfl (Nat.le_of_ble_eq_true rfl) dL_call_101 ⟨Nat.le_of_ble_eq_true rfl, Nat.le_of_ble_eq_true rfl⟩ (fun r9 bs10 H locs e11 _ _ hP hD hS => ?_)
  obtain ⟨b12, er9, e11⟩ := e11
  have e11 : bs10 = [([(x, .inr (4, [.ref (sa 0), .ref (ja 0), .ref (ta 0), .ref h, .ref q]))] : va_W), ([(q, .inl (cy 3, 2, (.inr (.inr (.inr (.inr (va_up f i (some (b12 0)))))))))] : va_W), stW cy b12 v, stW cy sa v] := e11
  subst e11
  have er9 : r9 = v 7 0 := er9
  subst er9
  refine W.widen (k := 8) (n := 176) (Nat.le_refl _) (Nat.le_refl _) ?_
  have hP : va_P D vwCl ([([(x, .inr (4, [.ref (sa 0), .ref (ja 0), .ref (ta 0), .ref h, .ref q]))] : va_W), ([(q, .inl (cy 3, 2, (.inr (.inr (.inr (.inr (va_up f i (some (b12 0)))))))))] : va_W), stW cy b12 v, stW cy sa v] : List va_W).flatten H := hP
  have hD : va_D A ([([(x, .inr (4, [.ref (sa 0), .ref (ja 0), .ref (ta 0), .ref h, .ref q]))] : va_W), ([(q, .inl (cy 3, 2, (.inr (.inr (.inr (.inr (va_up f i (some (b12 0)))))))))] : va_W), stW cy b12 v, stW cy sa v] : List va_W).flatten := hD
  refine lv_goto (tgt := 125) hx hb dL_call_104 (by decide) ?_
  exact wl_Ri (bs := [([(x, .inr (4, [.ref (sa 0), .ref (ja 0), .ref (ta 0), .ref h, .ref q]))] : va_W), ([(q, .inl (cy 3, 2, (.inr (.inr (.inr (.inr (va_up f i (some (b12 0)))))))))] : va_W), stW cy b12 v, stW cy sa v]) (r := (v 7 0)) hx hb hr hlocks hAe hP hD hS (by exact ⟨b12, hn9, rfl⟩) dL_call_125
set_option maxHeartbeats 4000000 in
set_option maxRecDepth 100000 in
theorem m_c_goBack (l : Launch) (D : va_G) (cy : Nat → ClassId) (x : Nat) (sa ja ta : Nat → Nat) (h q : Nat) (g : Nat) (L : HsL) (z : Nat) (f : Nat → Option Nat) (v : Nat → Nat → Int32) (b : Nat → Nat) (u : Nat → Nat → Int32) (i : Nat) (n9 : Nat) (yb0 : Int32) (sz : Nat) (hz : z ≤ L.length) (hL : L.length ≤ 6) (hi : i < 2) (hf : f i = some (b 0)) (hn9 : u 7 0 = nI n9) : Met l yL_call wsL_call ({ frames := 4, cells := 8, slots := 176, locals := 89 } : Room) (wl_ic D cy (wl_T9 (va_A ([([(x, .inr (4, [.ref (sa 0), .ref (ja 0), .ref (ta 0), .ref h, .ref q]))] : va_W), ([(h, .inr (0, [.ref g, .int (nI z)]))] : va_W), ([(g, .inl (cy 3, 6, (.inr (.inr (.inr (.inr (q_rf L)))))))] : va_W), plW cy L, ([(q, .inl (cy 3, 2, (.inr (.inr (.inr (.inr f))))))] : va_W), stW cy b u, stW cy sa v] : List va_W).flatten sz)) [([(x, .inr (4, [.ref (sa 0), .ref (ja 0), .ref (ta 0), .ref h, .ref q]))] : va_W), ([(h, .inr (0, [.ref g, .int (nI z)]))] : va_W), ([(g, .inl (cy 3, 6, (.inr (.inr (.inr (.inr (q_rf L)))))))] : va_W), plW cy L, ([(q, .inl (cy 3, 2, (.inr (.inr (.inr (.inr f))))))] : va_W), stW cy b u, stW cy sa v] sz [.ref x, .int (nI 8), .int (nI i), .int yb0]) (va_Qi (fun (r : Int32) (bs : List va_W) => ∃ (L1 : HsL) (z1 : Nat), r = nI n9 ∧ bs = [([(x, .inr (4, [.ref (sa 0), .ref (ja 0), .ref (ta 0), .ref h, .ref q]))] : va_W), ([(h, .inr (0, [.ref g, .int (nI z1)]))] : va_W), ([(g, .inl (cy 3, 6, (.inr (.inr (.inr (.inr (q_rf L1)))))))] : va_W), plW cy L1, ([(q, .inl (cy 3, 2, (.inr (.inr (.inr (.inr f))))))] : va_W), stW cy b u, stW cy sa u] ∧ z1 ≤ L1.length ∧ L1.length ≤ 6 ∧ (L1.take z1).map Prod.snd = q_push ((L.take z).map Prod.snd) v) (wl_ib D [([(x, .inr (4, [.ref (sa 0), .ref (ja 0), .ref (ta 0), .ref h, .ref q]))] : va_W), ([(h, .inr (0, [.ref g, .int (nI z)]))] : va_W), ([(g, .inl (cy 3, 6, (.inr (.inr (.inr (.inr (q_rf L)))))))] : va_W), plW cy L, ([(q, .inl (cy 3, 2, (.inr (.inr (.inr (.inr f))))))] : va_W), stW cy b u, stW cy sa v] sz) (va_A ([([(x, .inr (4, [.ref (sa 0), .ref (ja 0), .ref (ta 0), .ref h, .ref q]))] : va_W), ([(h, .inr (0, [.ref g, .int (nI z)]))] : va_W), ([(g, .inl (cy 3, 6, (.inr (.inr (.inr (.inr (q_rf L)))))))] : va_W), plW cy L, ([(q, .inl (cy 3, 2, (.inr (.inr (.inr (.inr f))))))] : va_W), stW cy b u, stW cy sa v] : List va_W).flatten sz)) 8 176 (va_A ([([(x, .inr (4, [.ref (sa 0), .ref (ja 0), .ref (ta 0), .ref h, .ref q]))] : va_W), ([(h, .inr (0, [.ref g, .int (nI z)]))] : va_W), ([(g, .inl (cy 3, 6, (.inr (.inr (.inr (.inr (q_rf L)))))))] : va_W), plW cy L, ([(q, .inl (cy 3, 2, (.inr (.inr (.inr (.inr f))))))] : va_W), stW cy b u, stW cy sa v] : List va_W).flatten sz) := by
  refine wl_ofH (cc := cL_call) (maxL := 5) (ret := (some .int)) (by decide) rfl (Nat.le_of_ble_eq_true rfl) ?_
  intro p e s m below meth c ls A hx hb hr hts hown hlocks hml htab hsz hAe hP hK hD hX hA hS hl
  rw [hAe] at hX
  have hl : lv_has ls 5 [(0, .ref x), (1, .int (nI 8)), (2, .int (nI i)), (3, .int yb0)] := hl
  refine lv_iload_n hx hb dL_call_0 rfl (lv_at hl 1 rfl) ?_
  refine wl_if_ne (tgt := 13) hx hb 8 dL_call_1 (by decide) (by omega) (fun c1 => ?_) (fun c1 => absurd c1 (by decide))
  refine lv_iload_n hx hb dL_call_13 rfl (lv_at hl 1 rfl) ?_
  refine lv_iconst (v := 1) hx hb dL_call_14 (by decide) ?_
  refine wl_icmp_ne (tgt := 27) hx hb 8 1 dL_call_15 (by decide) (by omega) (by omega) (fun c2 => ?_) (fun c2 => absurd c2 (by decide))
  refine lv_iload_n hx hb dL_call_27 rfl (lv_at hl 1 rfl) ?_
  refine lv_iconst (v := 2) hx hb dL_call_28 (by decide) ?_
  refine wl_icmp_ne (tgt := 41) hx hb 8 2 dL_call_29 (by decide) (by omega) (by omega) (fun c3 => ?_) (fun c3 => absurd c3 (by decide))
  refine lv_iload_n hx hb dL_call_41 rfl (lv_at hl 1 rfl) ?_
  refine lv_iconst (v := 3) hx hb dL_call_42 (by decide) ?_
  refine wl_icmp_ne (tgt := 54) hx hb 8 3 dL_call_43 (by decide) (by omega) (by omega) (fun c4 => ?_) (fun c4 => absurd c4 (by decide))
  refine lv_iload_n hx hb dL_call_54 rfl (lv_at hl 1 rfl) ?_
  refine lv_iconst (v := 4) hx hb dL_call_55 (by decide) ?_
  refine wl_icmp_ne (tgt := 67) hx hb 8 4 dL_call_56 (by decide) (by omega) (by omega) (fun c5 => ?_) (fun c5 => absurd c5 (by decide))
  refine lv_iload_n hx hb dL_call_67 rfl (lv_at hl 1 rfl) ?_
  refine lv_iconst (v := 5) hx hb dL_call_68 (by decide) ?_
  refine wl_icmp_ne (tgt := 80) hx hb 8 5 dL_call_69 (by decide) (by omega) (by omega) (fun c6 => ?_) (fun c6 => absurd c6 (by decide))
  refine lv_iload_n hx hb dL_call_80 rfl (lv_at hl 1 rfl) ?_
  refine lv_bipush (v := 6) hx hb dL_call_81 (by decide) ?_
  refine wl_icmp_ne (tgt := 93) hx hb 8 6 dL_call_83 (by decide) (by omega) (by omega) (fun c7 => ?_) (fun c7 => absurd c7 (by decide))
  refine lv_iload_n hx hb dL_call_93 rfl (lv_at hl 1 rfl) ?_
  refine lv_bipush (v := 7) hx hb dL_call_94 (by decide) ?_
  refine wl_icmp_ne (tgt := 107) hx hb 8 7 dL_call_96 (by decide) (by omega) (by omega) (fun c8 => ?_) (fun c8 => absurd c8 (by decide))
  refine lv_iload_n hx hb dL_call_107 rfl (lv_at hl 1 rfl) ?_
  refine lv_bipush (v := 8) hx hb dL_call_108 (by decide) ?_
  refine wl_icmp_ne (tgt := 121) hx hb 8 8 dL_call_110 (by decide) (by omega) (by omega) (fun c9 => absurd c9 (by decide)) (fun c9 => ?_)
  refine lv_aload_n hx hb dL_call_113 rfl (lv_at hl 0 rfl) ?_
  refine lv_iload_n hx hb dL_call_114 rfl (lv_at hl 2 rfl) ?_
  refine wl_iV (As := [.int (nI i)]) (rest := []) (bsC := [([(x, .inr (4, [.ref (sa 0), .ref (ja 0), .ref (ta 0), .ref h, .ref q]))] : va_W), ([(h, .inr (0, [.ref g, .int (nI z)]))] : va_W), ([(g, .inl (cy 3, 6, (.inr (.inr (.inr (.inr (q_rf L)))))))] : va_W), plW cy L, ([(q, .inl (cy 3, 2, (.inr (.inr (.inr (.inr f))))))] : va_W), stW cy b u, stW cy sa v]) (bsR := []) ⟨hx, hb, hml, hown, hts⟩ (m_X4_goBack l D cy x sa ja ta h q g L z f v b u i s.heap.size hz hL hi hf) (cwV 1 hts gL_call_X4_goBack rfl rfl rfl (by decide +kernel) ⟨Nat.le_of_ble_eq_true rfl, Nat.le_of_ble_eq_true rfl⟩) wl_E_b (fun U _ hW => wl_E_w hW hX.1.1) hK hP hD hS hA rfl rfl rfl rfl rfl hl.1 rfl (Nat.le_of_ble_eq_true rfl) dL_call_115 ⟨Nat.le_of_ble_eq_true rfl, Nat.le_of_ble_eq_true rfl⟩ (fun r10 bs11 H locs e12 _ _ hP hD hS => ?_)
  obtain ⟨L113, z114, er10, e12, f15, f16, f17⟩ := e12
  have e12 : bs11 = [([(x, .inr (4, [.ref (sa 0), .ref (ja 0), .ref (ta 0), .ref h, .ref q]))] : va_W), ([(h, .inr (0, [.ref g, .int (nI z114)]))] : va_W), ([(g, .inl (cy 3, 6, (.inr (.inr (.inr (.inr (q_rf L113)))))))] : va_W), plW cy L113, ([(q, .inl (cy 3, 2, (.inr (.inr (.inr (.inr f))))))] : va_W), stW cy b u, stW cy sa u] := e12
  subst e12
  have er10 : r10 = u 7 0 := er10
  subst er10
  refine W.widen (k := 8) (n := 176) (Nat.le_refl _) (Nat.le_refl _) ?_
  have hP : va_P D vwCl ([([(x, .inr (4, [.ref (sa 0), .ref (ja 0), .ref (ta 0), .ref h, .ref q]))] : va_W), ([(h, .inr (0, [.ref g, .int (nI z114)]))] : va_W), ([(g, .inl (cy 3, 6, (.inr (.inr (.inr (.inr (q_rf L113)))))))] : va_W), plW cy L113, ([(q, .inl (cy 3, 2, (.inr (.inr (.inr (.inr f))))))] : va_W), stW cy b u, stW cy sa u] : List va_W).flatten H := hP
  have hD : va_D A ([([(x, .inr (4, [.ref (sa 0), .ref (ja 0), .ref (ta 0), .ref h, .ref q]))] : va_W), ([(h, .inr (0, [.ref g, .int (nI z114)]))] : va_W), ([(g, .inl (cy 3, 6, (.inr (.inr (.inr (.inr (q_rf L113)))))))] : va_W), plW cy L113, ([(q, .inl (cy 3, 2, (.inr (.inr (.inr (.inr f))))))] : va_W), stW cy b u, stW cy sa u] : List va_W).flatten := hD
  refine lv_goto (tgt := 125) hx hb dL_call_118 (by decide) ?_
  exact wl_Ri (bs := [([(x, .inr (4, [.ref (sa 0), .ref (ja 0), .ref (ta 0), .ref h, .ref q]))] : va_W), ([(h, .inr (0, [.ref g, .int (nI z114)]))] : va_W), ([(g, .inl (cy 3, 6, (.inr (.inr (.inr (.inr (q_rf L113)))))))] : va_W), plW cy L113, ([(q, .inl (cy 3, 2, (.inr (.inr (.inr (.inr f))))))] : va_W), stW cy b u, stW cy sa u]) (r := (u 7 0)) hx hb hr hlocks hAe hP hD hS (by exact ⟨L113, z114, hn9, rfl, f15, f16, f17⟩) dL_call_125
