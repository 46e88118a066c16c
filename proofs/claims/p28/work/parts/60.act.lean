/-! the law: one act -/
set_option maxHeartbeats 4000000 in
set_option maxRecDepth 100000 in
theorem m_L_act1 (l : Launch) (D : va_G) (cy : Nat → ClassId) (x : Nat) (sa ja ta : Nat → Nat) (h q : Nat) (g : Nat) (L : HsL) (z : Nat) (w : Nat → Nat → Int32) (v : Nat → Nat → Int32) (n T y : Nat) (sz : Nat) (hz : z ≤ L.length) (hL : L.length ≤ 6) (hok : p_ok v n T) (hy : y < 2 ^ 31) (hc1 : y % 16 < 6) (hc2 : n + 12 ≤ 120) : Met l yL_act wsL_act ({ frames := 8, cells := 8, slots := 176, locals := 300 } : Room) (wl_ic D cy (wl_T9 (va_A ([([(x, .inr (4, [.ref (sa 0), .ref (ja 0), .ref (ta 0), .ref h, .ref q]))] : va_W), ([(h, .inr (0, [.ref g, .int (nI z)]))] : va_W), ([(g, .inl (cy 3, 6, (.inr (.inr (.inr (.inr (q_rf L)))))))] : va_W), plW cy L, joW cy ja w, stW cy sa v] : List va_W).flatten sz)) [([(x, .inr (4, [.ref (sa 0), .ref (ja 0), .ref (ta 0), .ref h, .ref q]))] : va_W), ([(h, .inr (0, [.ref g, .int (nI z)]))] : va_W), ([(g, .inl (cy 3, 6, (.inr (.inr (.inr (.inr (q_rf L)))))))] : va_W), plW cy L, joW cy ja w, stW cy sa v] sz [.ref x, .int (nI y)]) (va_Qi (fun (r : Int32) (bs : List va_W) => ∃ (L1 : HsL) (z1 : Nat) (v1 : Nat → Nat → Int32) (w1 : Nat → Nat → Int32) (n1 : Nat) (T1 : Nat), r = 1 ∧ bs = [([(x, .inr (4, [.ref (sa 0), .ref (ja 0), .ref (ta 0), .ref h, .ref q]))] : va_W), ([(h, .inr (0, [.ref g, .int (nI z1)]))] : va_W), ([(g, .inl (cy 3, 6, (.inr (.inr (.inr (.inr (q_rf L1)))))))] : va_W), plW cy L1, joW cy ja w1, stW cy sa v1] ∧ z1 ≤ L1.length ∧ L1.length ≤ 6 ∧ (L1.take z1).map Prod.snd = q_push ((L.take z).map Prod.snd) v ∧ p_ok v1 n1 T1 ∧ T1 ≤ T + 8) (wl_ib D [([(x, .inr (4, [.ref (sa 0), .ref (ja 0), .ref (ta 0), .ref h, .ref q]))] : va_W), ([(h, .inr (0, [.ref g, .int (nI z)]))] : va_W), ([(g, .inl (cy 3, 6, (.inr (.inr (.inr (.inr (q_rf L)))))))] : va_W), plW cy L, joW cy ja w, stW cy sa v] sz) (va_A ([([(x, .inr (4, [.ref (sa 0), .ref (ja 0), .ref (ta 0), .ref h, .ref q]))] : va_W), ([(h, .inr (0, [.ref g, .int (nI z)]))] : va_W), ([(g, .inl (cy 3, 6, (.inr (.inr (.inr (.inr (q_rf L)))))))] : va_W), plW cy L, joW cy ja w, stW cy sa v] : List va_W).flatten sz)) 8 176 (va_A ([([(x, .inr (4, [.ref (sa 0), .ref (ja 0), .ref (ta 0), .ref h, .ref q]))] : va_W), ([(h, .inr (0, [.ref g, .int (nI z)]))] : va_W), ([(g, .inl (cy 3, 6, (.inr (.inr (.inr (.inr (q_rf L)))))))] : va_W), plW cy L, joW cy ja w, stW cy sa v] : List va_W).flatten sz) := by
  refine wl_ofI (cc := cL_act) (maxL := 8) (ret := (some .int)) (by decide) rfl (Nat.le_of_ble_eq_true rfl) ?_
  intro p e s m below meth c ls A hx hb hr hts hown hlocks hml hnm hsz hAe hP hK hD hX hA hS hl
  rw [hAe] at hX
  have hl : lv_has ls 8 [(0, .ref x), (1, .int (nI y))] := hl
  have hn := hok.2.1
  have hn2 := hok.1
  refine lv_iload_n hx hb dL_act_0 rfl (lv_at hl 1 rfl) ?_
  refine lv_bipush (v := 16) hx hb dL_act_1 (by decide) ?_
  refine lv_irem hx hb dL_act_3 (by decide) ?_
  refine wl_top (y := nI (y % 16)) (pk_rem (a := y) (d := 16) (by omega) (by omega) (by omega)) ?_
  refine lv_istore_n (lv' := [(2, .int (nI (y % 16))), (0, .ref x), (1, .int (nI y))]) hx hb dL_act_4 rfl hl (by decide) rfl (fun ls hl => ?_)
  refine lv_iload_n hx hb dL_act_5 rfl (lv_at hl 2 rfl) ?_
  refine lv_bipush (v := 16) hx hb dL_act_6 (by decide) ?_
  refine lv_idiv hx hb dL_act_8 (by decide) ?_
  refine wl_top (y := nI (y / 16)) (pk_div (a := y) (d := 16) (by omega) (by omega) (by omega)) ?_
  refine lv_istore_n (lv' := [(3, .int (nI (y / 16))), (2, .int (nI (y % 16))), (0, .ref x), (1, .int (nI y))]) hx hb dL_act_9 rfl hl (by decide) rfl (fun ls hl => ?_)
  refine lv_iload_n hx hb dL_act_10 rfl (lv_at hl 0 rfl) ?_
  refine lv_bipush (v := 8) hx hb dL_act_11 (by decide) ?_
  refine lv_irem hx hb dL_act_13 (by decide) ?_
  refine wl_top (y := nI ((y / 16) % 8)) (pk_rem (a := y / 16) (d := 8) (by omega) (by omega) (by omega)) ?_
  refine lv_istore (lv' := [(4, .int (nI ((y / 16) % 8))), (3, .int (nI (y / 16))), (2, .int (nI (y % 16))), (0, .ref x), (1, .int (nI y))]) hx hb dL_act_14 hl (by decide) rfl (fun ls hl => ?_)
  refine lv_iload_n hx hb dL_act_16 rfl (lv_at hl 2 rfl) ?_
  refine lv_bipush (v := 8) hx hb dL_act_17 (by decide) ?_
  refine wl_icmp_ge (tgt := 39) hx hb (y % 16) 8 dL_act_19 (by decide) (by omega) (by omega) (fun c1 => absurd c1 (by omega)) (fun c1 => ?_)
  refine lv_aload_n hx hb dL_act_22 rfl (lv_at hl 3 rfl) ?_
  refine lv_iload_n hx hb dL_act_23 rfl (lv_at hl 1 rfl) ?_
  refine lv_iload_n hx hb dL_act_24 rfl (lv_at hl 2 rfl) ?_
  refine lv_bipush (v := 6) hx hb dL_act_25 (by decide) ?_
  refine wl_icmp_ge (tgt := 34) hx hb (y % 16) 6 dL_act_27 (by decide) (by omega) (by omega) (fun c2 => absurd c2 (by omega)) (fun c2 => ?_)
  refine lv_iconst (v := 1) hx hb dL_act_30 (by decide) ?_
  refine lv_goto (tgt := 35) hx hb dL_act_31 (by decide) ?_
  have hP := wl_Po (bs' := [([(x, .inr (4, [.ref (sa 0), .ref (ja 0), .ref (ta 0), .ref h, .ref q]))] : va_W), ([(h, .inr (0, [.ref g, .int (nI z)]))] : va_W), ([(g, .inl (cy 3, 6, (.inr (.inr (.inr (.inr (q_rf L)))))))] : va_W), plW cy L, stW cy sa v, joW cy ja w]) [0, 1, 2, 3, 5, 4] 6 rfl (by decide) rfl hP
  have hD := wl_Do (bs' := [([(x, .inr (4, [.ref (sa 0), .ref (ja 0), .ref (ta 0), .ref h, .ref q]))] : va_W), ([(h, .inr (0, [.ref g, .int (nI z)]))] : va_W), ([(g, .inl (cy 3, 6, (.inr (.inr (.inr (.inr (q_rf L)))))))] : va_W), plW cy L, stW cy sa v, joW cy ja w]) [0, 1, 2, 3, 5, 4] 6 rfl (by decide) rfl hD
  refine wl_iS (As := [.ref x, .int (nI (y / 16)), .int 1]) (rest := []) (bsC := [([(x, .inr (4, [.ref (sa 0), .ref (ja 0), .ref (ta 0), .ref h, .ref q]))] : va_W), ([(h, .inr (0, [.ref g, .int (nI z)]))] : va_W), ([(g, .inl (cy 3, 6, (.inr (.inr (.inr (.inr (q_rf L)))))))] : va_W), plW cy L, stW cy sa v]) (bsR := [joW cy ja w]) ⟨hx, hb, hml, hown, hts⟩ (m_L_sendsW l D cy x sa ja ta h q g L z v n (y / 16) s.heap.size hz hL (by omega) hn (by omega)) (va_cwS 3 hts gL_act_L_sends rfl rfl rfl (by decide +kernel) ⟨Nat.le_of_ble_eq_true rfl, Nat.le_of_ble_eq_true rfl⟩) wl_T9_b (fun U hU hW => wl_T9_w hU hW hS (wl_freeB (bsC := [([(x, .inr (4, [.ref (sa 0), .ref (ja 0), .ref (ta 0), .ref h, .ref q]))] : va_W), ([(h, .inr (0, [.ref g, .int (nI z)]))] : va_W), ([(g, .inl (cy 3, 6, (.inr (.inr (.inr (.inr (q_rf L)))))))] : va_W), plW cy L, stW cy sa v]) (bsR := [joW cy ja w]) hD hS hA) hX) hK hP hD hS hA rfl hl.1 rfl (Nat.le_of_ble_eq_true rfl) dL_act_35 ⟨Nat.le_of_ble_eq_true rfl, Nat.le_of_ble_eq_true rfl⟩ (fun r3 bs4 H locs e5 _ _ hP hD hS => ?_)
  obtain ⟨L16, z17, er3, e5, f8, f9, f10⟩ := e5
  have e5 : bs4 = [([(x, .inr (4, [.ref (sa 0), .ref (ja 0), .ref (ta 0), .ref h, .ref q]))] : va_W), ([(h, .inr (0, [.ref g, .int (nI z17)]))] : va_W), ([(g, .inl (cy 3, 6, (.inr (.inr (.inr (.inr (q_rf L16)))))))] : va_W), plW cy L16, stW cy sa (q_aw (nI ((y / 16) % 4096)) n v 12)] := e5
  subst e5
  have er3 : r3 = 1 := er3
  subst er3
  refine W.widen (k := 8) (n := 176) (Nat.le_refl _) (Nat.le_refl _) ?_
  have hP : va_P D vwCl ([([(x, .inr (4, [.ref (sa 0), .ref (ja 0), .ref (ta 0), .ref h, .ref q]))] : va_W), ([(h, .inr (0, [.ref g, .int (nI z17)]))] : va_W), ([(g, .inl (cy 3, 6, (.inr (.inr (.inr (.inr (q_rf L16)))))))] : va_W), plW cy L16, stW cy sa (q_aw (nI ((y / 16) % 4096)) n v 12), joW cy ja w] : List va_W).flatten H := hP
  have hD : va_D A ([([(x, .inr (4, [.ref (sa 0), .ref (ja 0), .ref (ta 0), .ref h, .ref q]))] : va_W), ([(h, .inr (0, [.ref g, .int (nI z17)]))] : va_W), ([(g, .inl (cy 3, 6, (.inr (.inr (.inr (.inr (q_rf L16)))))))] : va_W), plW cy L16, stW cy sa (q_aw (nI ((y / 16) % 4096)) n v 12), joW cy ja w] : List va_W).flatten := hD
  have hP := wl_Po (bs' := [([(x, .inr (4, [.ref (sa 0), .ref (ja 0), .ref (ta 0), .ref h, .ref q]))] : va_W), ([(h, .inr (0, [.ref g, .int (nI z17)]))] : va_W), ([(g, .inl (cy 3, 6, (.inr (.inr (.inr (.inr (q_rf L16)))))))] : va_W), plW cy L16, joW cy ja w, stW cy sa (q_aw (nI ((y / 16) % 4096)) n v 12)]) [0, 1, 2, 3, 5, 4] 6 rfl (by decide) rfl hP
  have hD := wl_Do (bs' := [([(x, .inr (4, [.ref (sa 0), .ref (ja 0), .ref (ta 0), .ref h, .ref q]))] : va_W), ([(h, .inr (0, [.ref g, .int (nI z17)]))] : va_W), ([(g, .inl (cy 3, 6, (.inr (.inr (.inr (.inr (q_rf L16)))))))] : va_W), plW cy L16, joW cy ja w, stW cy sa (q_aw (nI ((y / 16) % 4096)) n v 12)]) [0, 1, 2, 3, 5, 4] 6 rfl (by decide) rfl hD
  exact wl_Ri (bs := [([(x, .inr (4, [.ref (sa 0), .ref (ja 0), .ref (ta 0), .ref h, .ref q]))] : va_W), ([(h, .inr (0, [.ref g, .int (nI z17)]))] : va_W), ([(g, .inl (cy 3, 6, (.inr (.inr (.inr (.inr (q_rf L16)))))))] : va_W), plW cy L16, joW cy ja w, stW cy sa (q_aw (nI ((y / 16) % 4096)) n v 12)]) (r := 1) hx hb hr hlocks hAe hP hD hS (by exact ⟨L16, z17, _, _, n + 12, T, rfl, rfl, f8, f9, f10, p_ok_aw hok 12 hc2, by omega⟩) dL_act_38
set_option maxHeartbeats 4000000 in
set_option maxRecDepth 100000 in
theorem m_L_act2 (l : Launch) (D : va_G) (cy : Nat → ClassId) (x : Nat) (sa ja ta : Nat → Nat) (h q : Nat) (g : Nat) (L : HsL) (z : Nat) (w : Nat → Nat → Int32) (v : Nat → Nat → Int32) (n T y : Nat) (sz : Nat) (hz : z ≤ L.length) (hL : L.length ≤ 6) (hok : p_ok v n T) (hy : y < 2 ^ 31) (hc1 : y % 16 < 6) (hc2 : ¬ n + 12 ≤ 120) : Met l yL_act wsL_act ({ frames := 8, cells := 8, slots := 176, locals := 300 } : Room) (wl_ic D cy (wl_T9 (va_A ([([(x, .inr (4, [.ref (sa 0), .ref (ja 0), .ref (ta 0), .ref h, .ref q]))] : va_W), ([(h, .inr (0, [.ref g, .int (nI z)]))] : va_W), ([(g, .inl (cy 3, 6, (.inr (.inr (.inr (.inr (q_rf L)))))))] : va_W), plW cy L, joW cy ja w, stW cy sa v] : List va_W).flatten sz)) [([(x, .inr (4, [.ref (sa 0), .ref (ja 0), .ref (ta 0), .ref h, .ref q]))] : va_W), ([(h, .inr (0, [.ref g, .int (nI z)]))] : va_W), ([(g, .inl (cy 3, 6, (.inr (.inr (.inr (.inr (q_rf L)))))))] : va_W), plW cy L, joW cy ja w, stW cy sa v] sz [.ref x, .int (nI y)]) (va_Qi (fun (r : Int32) (bs : List va_W) => ∃ (L1 : HsL) (z1 : Nat) (v1 : Nat → Nat → Int32) (w1 : Nat → Nat → Int32) (n1 : Nat) (T1 : Nat), r = 1 ∧ bs = [([(x, .inr (4, [.ref (sa 0), .ref (ja 0), .ref (ta 0), .ref h, .ref q]))] : va_W), ([(h, .inr (0, [.ref g, .int (nI z1)]))] : va_W), ([(g, .inl (cy 3, 6, (.inr (.inr (.inr (.inr (q_rf L1)))))))] : va_W), plW cy L1, joW cy ja w1, stW cy sa v1] ∧ z1 ≤ L1.length ∧ L1.length ≤ 6 ∧ (L1.take z1).map Prod.snd = q_push ((L.take z).map Prod.snd) v ∧ p_ok v1 n1 T1 ∧ T1 ≤ T + 8) (wl_ib D [([(x, .inr (4, [.ref (sa 0), .ref (ja 0), .ref (ta 0), .ref h, .ref q]))] : va_W), ([(h, .inr (0, [.ref g, .int (nI z)]))] : va_W), ([(g, .inl (cy 3, 6, (.inr (.inr (.inr (.inr (q_rf L)))))))] : va_W), plW cy L, joW cy ja w, stW cy sa v] sz) (va_A ([([(x, .inr (4, [.ref (sa 0), .ref (ja 0), .ref (ta 0), .ref h, .ref q]))] : va_W), ([(h, .inr (0, [.ref g, .int (nI z)]))] : va_W), ([(g, .inl (cy 3, 6, (.inr (.inr (.inr (.inr (q_rf L)))))))] : va_W), plW cy L, joW cy ja w, stW cy sa v] : List va_W).flatten sz)) 8 176 (va_A ([([(x, .inr (4, [.ref (sa 0), .ref (ja 0), .ref (ta 0), .ref h, .ref q]))] : va_W), ([(h, .inr (0, [.ref g, .int (nI z)]))] : va_W), ([(g, .inl (cy 3, 6, (.inr (.inr (.inr (.inr (q_rf L)))))))] : va_W), plW cy L, joW cy ja w, stW cy sa v] : List va_W).flatten sz) := by
  refine wl_ofI (cc := cL_act) (maxL := 8) (ret := (some .int)) (by decide) rfl (Nat.le_of_ble_eq_true rfl) ?_
  intro p e s m below meth c ls A hx hb hr hts hown hlocks hml hnm hsz hAe hP hK hD hX hA hS hl
  rw [hAe] at hX
  have hl : lv_has ls 8 [(0, .ref x), (1, .int (nI y))] := hl
  have hn := hok.2.1
  have hn2 := hok.1
  refine lv_iload_n hx hb dL_act_0 rfl (lv_at hl 1 rfl) ?_
  refine lv_bipush (v := 16) hx hb dL_act_1 (by decide) ?_
  refine lv_irem hx hb dL_act_3 (by decide) ?_
  refine wl_top (y := nI (y % 16)) (pk_rem (a := y) (d := 16) (by omega) (by omega) (by omega)) ?_
  refine lv_istore_n (lv' := [(2, .int (nI (y % 16))), (0, .ref x), (1, .int (nI y))]) hx hb dL_act_4 rfl hl (by decide) rfl (fun ls hl => ?_)
  refine lv_iload_n hx hb dL_act_5 rfl (lv_at hl 2 rfl) ?_
  refine lv_bipush (v := 16) hx hb dL_act_6 (by decide) ?_
  refine lv_idiv hx hb dL_act_8 (by decide) ?_
  refine wl_top (y := nI (y / 16)) (pk_div (a := y) (d := 16) (by omega) (by omega) (by omega)) ?_
  refine lv_istore_n (lv' := [(3, .int (nI (y / 16))), (2, .int (nI (y % 16))), (0, .ref x), (1, .int (nI y))]) hx hb dL_act_9 rfl hl (by decide) rfl (fun ls hl => ?_)
  refine lv_iload_n hx hb dL_act_10 rfl (lv_at hl 0 rfl) ?_
  refine lv_bipush (v := 8) hx hb dL_act_11 (by decide) ?_
  refine lv_irem hx hb dL_act_13 (by decide) ?_
  refine wl_top (y := nI ((y / 16) % 8)) (pk_rem (a := y / 16) (d := 8) (by omega) (by omega) (by omega)) ?_
  refine lv_istore (lv' := [(4, .int (nI ((y / 16) % 8))), (3, .int (nI (y / 16))), (2, .int (nI (y % 16))), (0, .ref x), (1, .int (nI y))]) hx hb dL_act_14 hl (by decide) rfl (fun ls hl => ?_)
  refine lv_iload_n hx hb dL_act_16 rfl (lv_at hl 2 rfl) ?_
  refine lv_bipush (v := 8) hx hb dL_act_17 (by decide) ?_
  refine wl_icmp_ge (tgt := 39) hx hb (y % 16) 8 dL_act_19 (by decide) (by omega) (by omega) (fun c1 => absurd c1 (by omega)) (fun c1 => ?_)
  refine lv_aload_n hx hb dL_act_22 rfl (lv_at hl 3 rfl) ?_
  refine lv_iload_n hx hb dL_act_23 rfl (lv_at hl 1 rfl) ?_
  refine lv_iload_n hx hb dL_act_24 rfl (lv_at hl 2 rfl) ?_
  refine lv_bipush (v := 6) hx hb dL_act_25 (by decide) ?_
  refine wl_icmp_ge (tgt := 34) hx hb (y % 16) 6 dL_act_27 (by decide) (by omega) (by omega) (fun c2 => absurd c2 (by omega)) (fun c2 => ?_)
  refine lv_iconst (v := 1) hx hb dL_act_30 (by decide) ?_
  refine lv_goto (tgt := 35) hx hb dL_act_31 (by decide) ?_
  have hP := wl_Po (bs' := [([(x, .inr (4, [.ref (sa 0), .ref (ja 0), .ref (ta 0), .ref h, .ref q]))] : va_W), ([(h, .inr (0, [.ref g, .int (nI z)]))] : va_W), ([(g, .inl (cy 3, 6, (.inr (.inr (.inr (.inr (q_rf L)))))))] : va_W), plW cy L, stW cy sa v, joW cy ja w]) [0, 1, 2, 3, 5, 4] 6 rfl (by decide) rfl hP
  have hD := wl_Do (bs' := [([(x, .inr (4, [.ref (sa 0), .ref (ja 0), .ref (ta 0), .ref h, .ref q]))] : va_W), ([(h, .inr (0, [.ref g, .int (nI z)]))] : va_W), ([(g, .inl (cy 3, 6, (.inr (.inr (.inr (.inr (q_rf L)))))))] : va_W), plW cy L, stW cy sa v, joW cy ja w]) [0, 1, 2, 3, 5, 4] 6 rfl (by decide) rfl hD
  refine wl_iS (As := [.ref x, .int (nI (y / 16)), .int 1]) (rest := []) (bsC := [([(x, .inr (4, [.ref (sa 0), .ref (ja 0), .ref (ta 0), .ref h, .ref q]))] : va_W), ([(h, .inr (0, [.ref g, .int (nI z)]))] : va_W), ([(g, .inl (cy 3, 6, (.inr (.inr (.inr (.inr (q_rf L)))))))] : va_W), plW cy L, stW cy sa v]) (bsR := [joW cy ja w]) ⟨hx, hb, hml, hown, hts⟩ (m_L_sendsWF l D cy x sa ja ta h q g L z v n (y / 16) s.heap.size hz hL (by omega) hn (by omega) (by omega)) (va_cwS 3 hts gL_act_L_sends rfl rfl rfl (by decide +kernel) ⟨Nat.le_of_ble_eq_true rfl, Nat.le_of_ble_eq_true rfl⟩) wl_T9_b (fun U hU hW => wl_T9_w hU hW hS (wl_freeB (bsC := [([(x, .inr (4, [.ref (sa 0), .ref (ja 0), .ref (ta 0), .ref h, .ref q]))] : va_W), ([(h, .inr (0, [.ref g, .int (nI z)]))] : va_W), ([(g, .inl (cy 3, 6, (.inr (.inr (.inr (.inr (q_rf L)))))))] : va_W), plW cy L, stW cy sa v]) (bsR := [joW cy ja w]) hD hS hA) hX) hK hP hD hS hA rfl hl.1 rfl (Nat.le_of_ble_eq_true rfl) dL_act_35 ⟨Nat.le_of_ble_eq_true rfl, Nat.le_of_ble_eq_true rfl⟩ (fun r3 bs4 H locs e5 _ _ hP hD hS => ?_)
  obtain ⟨L16, z17, er3, e5, f8, f9, f10⟩ := e5
  have e5 : bs4 = [([(x, .inr (4, [.ref (sa 0), .ref (ja 0), .ref (ta 0), .ref h, .ref q]))] : va_W), ([(h, .inr (0, [.ref g, .int (nI z17)]))] : va_W), ([(g, .inl (cy 3, 6, (.inr (.inr (.inr (.inr (q_rf L16)))))))] : va_W), plW cy L16, stW cy sa (q_rfu v)] := e5
  subst e5
  have er3 : r3 = 1 := er3
  subst er3
  refine W.widen (k := 8) (n := 176) (Nat.le_refl _) (Nat.le_refl _) ?_
  have hP : va_P D vwCl ([([(x, .inr (4, [.ref (sa 0), .ref (ja 0), .ref (ta 0), .ref h, .ref q]))] : va_W), ([(h, .inr (0, [.ref g, .int (nI z17)]))] : va_W), ([(g, .inl (cy 3, 6, (.inr (.inr (.inr (.inr (q_rf L16)))))))] : va_W), plW cy L16, stW cy sa (q_rfu v), joW cy ja w] : List va_W).flatten H := hP
  have hD : va_D A ([([(x, .inr (4, [.ref (sa 0), .ref (ja 0), .ref (ta 0), .ref h, .ref q]))] : va_W), ([(h, .inr (0, [.ref g, .int (nI z17)]))] : va_W), ([(g, .inl (cy 3, 6, (.inr (.inr (.inr (.inr (q_rf L16)))))))] : va_W), plW cy L16, stW cy sa (q_rfu v), joW cy ja w] : List va_W).flatten := hD
  have hP := wl_Po (bs' := [([(x, .inr (4, [.ref (sa 0), .ref (ja 0), .ref (ta 0), .ref h, .ref q]))] : va_W), ([(h, .inr (0, [.ref g, .int (nI z17)]))] : va_W), ([(g, .inl (cy 3, 6, (.inr (.inr (.inr (.inr (q_rf L16)))))))] : va_W), plW cy L16, joW cy ja w, stW cy sa (q_rfu v)]) [0, 1, 2, 3, 5, 4] 6 rfl (by decide) rfl hP
  have hD := wl_Do (bs' := [([(x, .inr (4, [.ref (sa 0), .ref (ja 0), .ref (ta 0), .ref h, .ref q]))] : va_W), ([(h, .inr (0, [.ref g, .int (nI z17)]))] : va_W), ([(g, .inl (cy 3, 6, (.inr (.inr (.inr (.inr (q_rf L16)))))))] : va_W), plW cy L16, joW cy ja w, stW cy sa (q_rfu v)]) [0, 1, 2, 3, 5, 4] 6 rfl (by decide) rfl hD
  exact wl_Ri (bs := [([(x, .inr (4, [.ref (sa 0), .ref (ja 0), .ref (ta 0), .ref h, .ref q]))] : va_W), ([(h, .inr (0, [.ref g, .int (nI z17)]))] : va_W), ([(g, .inl (cy 3, 6, (.inr (.inr (.inr (.inr (q_rf L16)))))))] : va_W), plW cy L16, joW cy ja w, stW cy sa (q_rfu v)]) (r := 1) hx hb hr hlocks hAe hP hD hS (by exact ⟨L16, z17, _, _, n, T, rfl, rfl, f8, f9, f10, p_ok_rfu hok, by omega⟩) dL_act_38
set_option maxHeartbeats 4000000 in
set_option maxRecDepth 100000 in
theorem m_L_act3 (l : Launch) (D : va_G) (cy : Nat → ClassId) (x : Nat) (sa ja ta : Nat → Nat) (h q : Nat) (g : Nat) (L : HsL) (z : Nat) (w : Nat → Nat → Int32) (v : Nat → Nat → Int32) (n T y : Nat) (sz : Nat) (hz : z ≤ L.length) (hL : L.length ≤ 6) (hok : p_ok v n T) (hy : y < 2 ^ 31) (hc0 : 6 ≤ y % 16) (hc1 : y % 16 < 8) (hc2 : n < 120) : Met l yL_act wsL_act ({ frames := 8, cells := 8, slots := 176, locals := 300 } : Room) (wl_ic D cy (wl_T9 (va_A ([([(x, .inr (4, [.ref (sa 0), .ref (ja 0), .ref (ta 0), .ref h, .ref q]))] : va_W), ([(h, .inr (0, [.ref g, .int (nI z)]))] : va_W), ([(g, .inl (cy 3, 6, (.inr (.inr (.inr (.inr (q_rf L)))))))] : va_W), plW cy L, joW cy ja w, stW cy sa v] : List va_W).flatten sz)) [([(x, .inr (4, [.ref (sa 0), .ref (ja 0), .ref (ta 0), .ref h, .ref q]))] : va_W), ([(h, .inr (0, [.ref g, .int (nI z)]))] : va_W), ([(g, .inl (cy 3, 6, (.inr (.inr (.inr (.inr (q_rf L)))))))] : va_W), plW cy L, joW cy ja w, stW cy sa v] sz [.ref x, .int (nI y)]) (va_Qi (fun (r : Int32) (bs : List va_W) => ∃ (L1 : HsL) (z1 : Nat) (v1 : Nat → Nat → Int32) (w1 : Nat → Nat → Int32) (n1 : Nat) (T1 : Nat), r = 1 ∧ bs = [([(x, .inr (4, [.ref (sa 0), .ref (ja 0), .ref (ta 0), .ref h, .ref q]))] : va_W), ([(h, .inr (0, [.ref g, .int (nI z1)]))] : va_W), ([(g, .inl (cy 3, 6, (.inr (.inr (.inr (.inr (q_rf L1)))))))] : va_W), plW cy L1, joW cy ja w1, stW cy sa v1] ∧ z1 ≤ L1.length ∧ L1.length ≤ 6 ∧ (L1.take z1).map Prod.snd = q_push ((L.take z).map Prod.snd) v ∧ p_ok v1 n1 T1 ∧ T1 ≤ T + 8) (wl_ib D [([(x, .inr (4, [.ref (sa 0), .ref (ja 0), .ref (ta 0), .ref h, .ref q]))] : va_W), ([(h, .inr (0, [.ref g, .int (nI z)]))] : va_W), ([(g, .inl (cy 3, 6, (.inr (.inr (.inr (.inr (q_rf L)))))))] : va_W), plW cy L, joW cy ja w, stW cy sa v] sz) (va_A ([([(x, .inr (4, [.ref (sa 0), .ref (ja 0), .ref (ta 0), .ref h, .ref q]))] : va_W), ([(h, .inr (0, [.ref g, .int (nI z)]))] : va_W), ([(g, .inl (cy 3, 6, (.inr (.inr (.inr (.inr (q_rf L)))))))] : va_W), plW cy L, joW cy ja w, stW cy sa v] : List va_W).flatten sz)) 8 176 (va_A ([([(x, .inr (4, [.ref (sa 0), .ref (ja 0), .ref (ta 0), .ref h, .ref q]))] : va_W), ([(h, .inr (0, [.ref g, .int (nI z)]))] : va_W), ([(g, .inl (cy 3, 6, (.inr (.inr (.inr (.inr (q_rf L)))))))] : va_W), plW cy L, joW cy ja w, stW cy sa v] : List va_W).flatten sz) := by
  refine wl_ofI (cc := cL_act) (maxL := 8) (ret := (some .int)) (by decide) rfl (Nat.le_of_ble_eq_true rfl) ?_
  intro p e s m below meth c ls A hx hb hr hts hown hlocks hml hnm hsz hAe hP hK hD hX hA hS hl
  rw [hAe] at hX
  have hl : lv_has ls 8 [(0, .ref x), (1, .int (nI y))] := hl
  have hn := hok.2.1
  have hn2 := hok.1
  refine lv_iload_n hx hb dL_act_0 rfl (lv_at hl 1 rfl) ?_
  refine lv_bipush (v := 16) hx hb dL_act_1 (by decide) ?_
  refine lv_irem hx hb dL_act_3 (by decide) ?_
  refine wl_top (y := nI (y % 16)) (pk_rem (a := y) (d := 16) (by omega) (by omega) (by omega)) ?_
  refine lv_istore_n (lv' := [(2, .int (nI (y % 16))), (0, .ref x), (1, .int (nI y))]) hx hb dL_act_4 rfl hl (by decide) rfl (fun ls hl => ?_)
  refine lv_iload_n hx hb dL_act_5 rfl (lv_at hl 2 rfl) ?_
  refine lv_bipush (v := 16) hx hb dL_act_6 (by decide) ?_
  refine lv_idiv hx hb dL_act_8 (by decide) ?_
  refine wl_top (y := nI (y / 16)) (pk_div (a := y) (d := 16) (by omega) (by omega) (by omega)) ?_
  refine lv_istore_n (lv' := [(3, .int (nI (y / 16))), (2, .int (nI (y % 16))), (0, .ref x), (1, .int (nI y))]) hx hb dL_act_9 rfl hl (by decide) rfl (fun ls hl => ?_)
  refine lv_iload_n hx hb dL_act_10 rfl (lv_at hl 0 rfl) ?_
  refine lv_bipush (v := 8) hx hb dL_act_11 (by decide) ?_
  refine lv_irem hx hb dL_act_13 (by decide) ?_
  refine wl_top (y := nI ((y / 16) % 8)) (pk_rem (a := y / 16) (d := 8) (by omega) (by omega) (by omega)) ?_
  refine lv_istore (lv' := [(4, .int (nI ((y / 16) % 8))), (3, .int (nI (y / 16))), (2, .int (nI (y % 16))), (0, .ref x), (1, .int (nI y))]) hx hb dL_act_14 hl (by decide) rfl (fun ls hl => ?_)
  refine lv_iload_n hx hb dL_act_16 rfl (lv_at hl 2 rfl) ?_
  refine lv_bipush (v := 8) hx hb dL_act_17 (by decide) ?_
  refine wl_icmp_ge (tgt := 39) hx hb (y % 16) 8 dL_act_19 (by decide) (by omega) (by omega) (fun c1 => absurd c1 (by omega)) (fun c1 => ?_)
  refine lv_aload_n hx hb dL_act_22 rfl (lv_at hl 3 rfl) ?_
  refine lv_iload_n hx hb dL_act_23 rfl (lv_at hl 1 rfl) ?_
  refine lv_iload_n hx hb dL_act_24 rfl (lv_at hl 2 rfl) ?_
  refine lv_bipush (v := 6) hx hb dL_act_25 (by decide) ?_
  refine wl_icmp_ge (tgt := 34) hx hb (y % 16) 6 dL_act_27 (by decide) (by omega) (by omega) (fun c2 => ?_) (fun c2 => absurd c2 (by omega))
  refine lv_iconst (v := 0) hx hb dL_act_34 (by decide) ?_
  have hP := wl_Po (bs' := [([(x, .inr (4, [.ref (sa 0), .ref (ja 0), .ref (ta 0), .ref h, .ref q]))] : va_W), ([(h, .inr (0, [.ref g, .int (nI z)]))] : va_W), ([(g, .inl (cy 3, 6, (.inr (.inr (.inr (.inr (q_rf L)))))))] : va_W), plW cy L, stW cy sa v, joW cy ja w]) [0, 1, 2, 3, 5, 4] 6 rfl (by decide) rfl hP
  have hD := wl_Do (bs' := [([(x, .inr (4, [.ref (sa 0), .ref (ja 0), .ref (ta 0), .ref h, .ref q]))] : va_W), ([(h, .inr (0, [.ref g, .int (nI z)]))] : va_W), ([(g, .inl (cy 3, 6, (.inr (.inr (.inr (.inr (q_rf L)))))))] : va_W), plW cy L, stW cy sa v, joW cy ja w]) [0, 1, 2, 3, 5, 4] 6 rfl (by decide) rfl hD
  refine wl_iS (As := [.ref x, .int (nI (y / 16)), .int 0]) (rest := []) (bsC := [([(x, .inr (4, [.ref (sa 0), .ref (ja 0), .ref (ta 0), .ref h, .ref q]))] : va_W), ([(h, .inr (0, [.ref g, .int (nI z)]))] : va_W), ([(g, .inl (cy 3, 6, (.inr (.inr (.inr (.inr (q_rf L)))))))] : va_W), plW cy L, stW cy sa v]) (bsR := [joW cy ja w]) ⟨hx, hb, hml, hown, hts⟩ (m_L_sendsP l D cy x sa ja ta h q g L z v n (y / 16) s.heap.size hz hL (by omega) hn (by omega)) (va_cwS 3 hts gL_act_L_sends rfl rfl rfl (by decide +kernel) ⟨Nat.le_of_ble_eq_true rfl, Nat.le_of_ble_eq_true rfl⟩) wl_T9_b (fun U hU hW => wl_T9_w hU hW hS (wl_freeB (bsC := [([(x, .inr (4, [.ref (sa 0), .ref (ja 0), .ref (ta 0), .ref h, .ref q]))] : va_W), ([(h, .inr (0, [.ref g, .int (nI z)]))] : va_W), ([(g, .inl (cy 3, 6, (.inr (.inr (.inr (.inr (q_rf L)))))))] : va_W), plW cy L, stW cy sa v]) (bsR := [joW cy ja w]) hD hS hA) hX) hK hP hD hS hA rfl hl.1 rfl (Nat.le_of_ble_eq_true rfl) dL_act_35 ⟨Nat.le_of_ble_eq_true rfl, Nat.le_of_ble_eq_true rfl⟩ (fun r3 bs4 H locs e5 _ _ hP hD hS => ?_)
  obtain ⟨L16, z17, er3, e5, f8, f9, f10⟩ := e5
  have e5 : bs4 = [([(x, .inr (4, [.ref (sa 0), .ref (ja 0), .ref (ta 0), .ref h, .ref q]))] : va_W), ([(h, .inr (0, [.ref g, .int (nI z17)]))] : va_W), ([(g, .inl (cy 3, 6, (.inr (.inr (.inr (.inr (q_rf L16)))))))] : va_W), plW cy L16, stW cy sa (su (su v 6 n (nI (1 + ((y / 16) % 20)))) 7 0 (nI (n + 1)))] := e5
  subst e5
  have er3 : r3 = 1 := er3
  subst er3
  refine W.widen (k := 8) (n := 176) (Nat.le_refl _) (Nat.le_refl _) ?_
  have hP : va_P D vwCl ([([(x, .inr (4, [.ref (sa 0), .ref (ja 0), .ref (ta 0), .ref h, .ref q]))] : va_W), ([(h, .inr (0, [.ref g, .int (nI z17)]))] : va_W), ([(g, .inl (cy 3, 6, (.inr (.inr (.inr (.inr (q_rf L16)))))))] : va_W), plW cy L16, stW cy sa (su (su v 6 n (nI (1 + ((y / 16) % 20)))) 7 0 (nI (n + 1))), joW cy ja w] : List va_W).flatten H := hP
  have hD : va_D A ([([(x, .inr (4, [.ref (sa 0), .ref (ja 0), .ref (ta 0), .ref h, .ref q]))] : va_W), ([(h, .inr (0, [.ref g, .int (nI z17)]))] : va_W), ([(g, .inl (cy 3, 6, (.inr (.inr (.inr (.inr (q_rf L16)))))))] : va_W), plW cy L16, stW cy sa (su (su v 6 n (nI (1 + ((y / 16) % 20)))) 7 0 (nI (n + 1))), joW cy ja w] : List va_W).flatten := hD
  have hP := wl_Po (bs' := [([(x, .inr (4, [.ref (sa 0), .ref (ja 0), .ref (ta 0), .ref h, .ref q]))] : va_W), ([(h, .inr (0, [.ref g, .int (nI z17)]))] : va_W), ([(g, .inl (cy 3, 6, (.inr (.inr (.inr (.inr (q_rf L16)))))))] : va_W), plW cy L16, joW cy ja w, stW cy sa (su (su v 6 n (nI (1 + ((y / 16) % 20)))) 7 0 (nI (n + 1)))]) [0, 1, 2, 3, 5, 4] 6 rfl (by decide) rfl hP
  have hD := wl_Do (bs' := [([(x, .inr (4, [.ref (sa 0), .ref (ja 0), .ref (ta 0), .ref h, .ref q]))] : va_W), ([(h, .inr (0, [.ref g, .int (nI z17)]))] : va_W), ([(g, .inl (cy 3, 6, (.inr (.inr (.inr (.inr (q_rf L16)))))))] : va_W), plW cy L16, joW cy ja w, stW cy sa (su (su v 6 n (nI (1 + ((y / 16) % 20)))) 7 0 (nI (n + 1)))]) [0, 1, 2, 3, 5, 4] 6 rfl (by decide) rfl hD
  exact wl_Ri (bs := [([(x, .inr (4, [.ref (sa 0), .ref (ja 0), .ref (ta 0), .ref h, .ref q]))] : va_W), ([(h, .inr (0, [.ref g, .int (nI z17)]))] : va_W), ([(g, .inl (cy 3, 6, (.inr (.inr (.inr (.inr (q_rf L16)))))))] : va_W), plW cy L16, joW cy ja w, stW cy sa (su (su v 6 n (nI (1 + ((y / 16) % 20)))) 7 0 (nI (n + 1)))]) (r := 1) hx hb hr hlocks hAe hP hD hS (by exact ⟨L16, z17, _, _, n + 1, T, rfl, rfl, f8, f9, f10, p_ok_ap hok hc2, by omega⟩) dL_act_38
set_option maxHeartbeats 4000000 in
set_option maxRecDepth 100000 in
theorem m_L_act4 (l : Launch) (D : va_G) (cy : Nat → ClassId) (x : Nat) (sa ja ta : Nat → Nat) (h q : Nat) (g : Nat) (L : HsL) (z : Nat) (w : Nat → Nat → Int32) (v : Nat → Nat → Int32) (n T y : Nat) (sz : Nat) (hz : z ≤ L.length) (hL : L.length ≤ 6) (hok : p_ok v n T) (hy : y < 2 ^ 31) (hc0 : 6 ≤ y % 16) (hc1 : y % 16 < 8) (h120 : n = 120) : Met l yL_act wsL_act ({ frames := 8, cells := 8, slots := 176, locals := 300 } : Room) (wl_ic D cy (wl_T9 (va_A ([([(x, .inr (4, [.ref (sa 0), .ref (ja 0), .ref (ta 0), .ref h, .ref q]))] : va_W), ([(h, .inr (0, [.ref g, .int (nI z)]))] : va_W), ([(g, .inl (cy 3, 6, (.inr (.inr (.inr (.inr (q_rf L)))))))] : va_W), plW cy L, joW cy ja w, stW cy sa v] : List va_W).flatten sz)) [([(x, .inr (4, [.ref (sa 0), .ref (ja 0), .ref (ta 0), .ref h, .ref q]))] : va_W), ([(h, .inr (0, [.ref g, .int (nI z)]))] : va_W), ([(g, .inl (cy 3, 6, (.inr (.inr (.inr (.inr (q_rf L)))))))] : va_W), plW cy L, joW cy ja w, stW cy sa v] sz [.ref x, .int (nI y)]) (va_Qi (fun (r : Int32) (bs : List va_W) => ∃ (L1 : HsL) (z1 : Nat) (v1 : Nat → Nat → Int32) (w1 : Nat → Nat → Int32) (n1 : Nat) (T1 : Nat), r = 1 ∧ bs = [([(x, .inr (4, [.ref (sa 0), .ref (ja 0), .ref (ta 0), .ref h, .ref q]))] : va_W), ([(h, .inr (0, [.ref g, .int (nI z1)]))] : va_W), ([(g, .inl (cy 3, 6, (.inr (.inr (.inr (.inr (q_rf L1)))))))] : va_W), plW cy L1, joW cy ja w1, stW cy sa v1] ∧ z1 ≤ L1.length ∧ L1.length ≤ 6 ∧ (L1.take z1).map Prod.snd = q_push ((L.take z).map Prod.snd) v ∧ p_ok v1 n1 T1 ∧ T1 ≤ T + 8) (wl_ib D [([(x, .inr (4, [.ref (sa 0), .ref (ja 0), .ref (ta 0), .ref h, .ref q]))] : va_W), ([(h, .inr (0, [.ref g, .int (nI z)]))] : va_W), ([(g, .inl (cy 3, 6, (.inr (.inr (.inr (.inr (q_rf L)))))))] : va_W), plW cy L, joW cy ja w, stW cy sa v] sz) (va_A ([([(x, .inr (4, [.ref (sa 0), .ref (ja 0), .ref (ta 0), .ref h, .ref q]))] : va_W), ([(h, .inr (0, [.ref g, .int (nI z)]))] : va_W), ([(g, .inl (cy 3, 6, (.inr (.inr (.inr (.inr (q_rf L)))))))] : va_W), plW cy L, joW cy ja w, stW cy sa v] : List va_W).flatten sz)) 8 176 (va_A ([([(x, .inr (4, [.ref (sa 0), .ref (ja 0), .ref (ta 0), .ref h, .ref q]))] : va_W), ([(h, .inr (0, [.ref g, .int (nI z)]))] : va_W), ([(g, .inl (cy 3, 6, (.inr (.inr (.inr (.inr (q_rf L)))))))] : va_W), plW cy L, joW cy ja w, stW cy sa v] : List va_W).flatten sz) := by
  refine wl_ofI (cc := cL_act) (maxL := 8) (ret := (some .int)) (by decide) rfl (Nat.le_of_ble_eq_true rfl) ?_
  intro p e s m below meth c ls A hx hb hr hts hown hlocks hml hnm hsz hAe hP hK hD hX hA hS hl
  rw [hAe] at hX
  have hl : lv_has ls 8 [(0, .ref x), (1, .int (nI y))] := hl
  have hn := hok.2.1
  have hn2 := hok.1
  refine lv_iload_n hx hb dL_act_0 rfl (lv_at hl 1 rfl) ?_
  refine lv_bipush (v := 16) hx hb dL_act_1 (by decide) ?_
  refine lv_irem hx hb dL_act_3 (by decide) ?_
  refine wl_top (y := nI (y % 16)) (pk_rem (a := y) (d := 16) (by omega) (by omega) (by omega)) ?_
  refine lv_istore_n (lv' := [(2, .int (nI (y % 16))), (0, .ref x), (1, .int (nI y))]) hx hb dL_act_4 rfl hl (by decide) rfl (fun ls hl => ?_)
  refine lv_iload_n hx hb dL_act_5 rfl (lv_at hl 2 rfl) ?_
  refine lv_bipush (v := 16) hx hb dL_act_6 (by decide) ?_
  refine lv_idiv hx hb dL_act_8 (by decide) ?_
  refine wl_top (y := nI (y / 16)) (pk_div (a := y) (d := 16) (by omega) (by omega) (by omega)) ?_
  refine lv_istore_n (lv' := [(3, .int (nI (y / 16))), (2, .int (nI (y % 16))), (0, .ref x), (1, .int (nI y))]) hx hb dL_act_9 rfl hl (by decide) rfl (fun ls hl => ?_)
  refine lv_iload_n hx hb dL_act_10 rfl (lv_at hl 0 rfl) ?_
  refine lv_bipush (v := 8) hx hb dL_act_11 (by decide) ?_
  refine lv_irem hx hb dL_act_13 (by decide) ?_
  refine wl_top (y := nI ((y / 16) % 8)) (pk_rem (a := y / 16) (d := 8) (by omega) (by omega) (by omega)) ?_
  refine lv_istore (lv' := [(4, .int (nI ((y / 16) % 8))), (3, .int (nI (y / 16))), (2, .int (nI (y % 16))), (0, .ref x), (1, .int (nI y))]) hx hb dL_act_14 hl (by decide) rfl (fun ls hl => ?_)
  refine lv_iload_n hx hb dL_act_16 rfl (lv_at hl 2 rfl) ?_
  refine lv_bipush (v := 8) hx hb dL_act_17 (by decide) ?_
  refine wl_icmp_ge (tgt := 39) hx hb (y % 16) 8 dL_act_19 (by decide) (by omega) (by omega) (fun c1 => absurd c1 (by omega)) (fun c1 => ?_)
  refine lv_aload_n hx hb dL_act_22 rfl (lv_at hl 3 rfl) ?_
  refine lv_iload_n hx hb dL_act_23 rfl (lv_at hl 1 rfl) ?_
  refine lv_iload_n hx hb dL_act_24 rfl (lv_at hl 2 rfl) ?_
  refine lv_bipush (v := 6) hx hb dL_act_25 (by decide) ?_
  refine wl_icmp_ge (tgt := 34) hx hb (y % 16) 6 dL_act_27 (by decide) (by omega) (by omega) (fun c2 => ?_) (fun c2 => absurd c2 (by omega))
  refine lv_iconst (v := 0) hx hb dL_act_34 (by decide) ?_
  have hP := wl_Po (bs' := [([(x, .inr (4, [.ref (sa 0), .ref (ja 0), .ref (ta 0), .ref h, .ref q]))] : va_W), ([(h, .inr (0, [.ref g, .int (nI z)]))] : va_W), ([(g, .inl (cy 3, 6, (.inr (.inr (.inr (.inr (q_rf L)))))))] : va_W), plW cy L, stW cy sa v, joW cy ja w]) [0, 1, 2, 3, 5, 4] 6 rfl (by decide) rfl hP
  have hD := wl_Do (bs' := [([(x, .inr (4, [.ref (sa 0), .ref (ja 0), .ref (ta 0), .ref h, .ref q]))] : va_W), ([(h, .inr (0, [.ref g, .int (nI z)]))] : va_W), ([(g, .inl (cy 3, 6, (.inr (.inr (.inr (.inr (q_rf L)))))))] : va_W), plW cy L, stW cy sa v, joW cy ja w]) [0, 1, 2, 3, 5, 4] 6 rfl (by decide) rfl hD
  refine wl_iS (As := [.ref x, .int (nI (y / 16)), .int 0]) (rest := []) (bsC := [([(x, .inr (4, [.ref (sa 0), .ref (ja 0), .ref (ta 0), .ref h, .ref q]))] : va_W), ([(h, .inr (0, [.ref g, .int (nI z)]))] : va_W), ([(g, .inl (cy 3, 6, (.inr (.inr (.inr (.inr (q_rf L)))))))] : va_W), plW cy L, stW cy sa v]) (bsR := [joW cy ja w]) ⟨hx, hb, hml, hown, hts⟩ (m_L_sendsPF l D cy x sa ja ta h q g L z v (y / 16) s.heap.size hz hL (by omega) (by rw [hn, h120])) (va_cwS 3 hts gL_act_L_sends rfl rfl rfl (by decide +kernel) ⟨Nat.le_of_ble_eq_true rfl, Nat.le_of_ble_eq_true rfl⟩) wl_T9_b (fun U hU hW => wl_T9_w hU hW hS (wl_freeB (bsC := [([(x, .inr (4, [.ref (sa 0), .ref (ja 0), .ref (ta 0), .ref h, .ref q]))] : va_W), ([(h, .inr (0, [.ref g, .int (nI z)]))] : va_W), ([(g, .inl (cy 3, 6, (.inr (.inr (.inr (.inr (q_rf L)))))))] : va_W), plW cy L, stW cy sa v]) (bsR := [joW cy ja w]) hD hS hA) hX) hK hP hD hS hA rfl hl.1 rfl (Nat.le_of_ble_eq_true rfl) dL_act_35 ⟨Nat.le_of_ble_eq_true rfl, Nat.le_of_ble_eq_true rfl⟩ (fun r3 bs4 H locs e5 _ _ hP hD hS => ?_)
  obtain ⟨L16, z17, er3, e5, f8, f9, f10⟩ := e5
  have e5 : bs4 = [([(x, .inr (4, [.ref (sa 0), .ref (ja 0), .ref (ta 0), .ref h, .ref q]))] : va_W), ([(h, .inr (0, [.ref g, .int (nI z17)]))] : va_W), ([(g, .inl (cy 3, 6, (.inr (.inr (.inr (.inr (q_rf L16)))))))] : va_W), plW cy L16, stW cy sa (q_rfu v)] := e5
  subst e5
  have er3 : r3 = 1 := er3
  subst er3
  refine W.widen (k := 8) (n := 176) (Nat.le_refl _) (Nat.le_refl _) ?_
  have hP : va_P D vwCl ([([(x, .inr (4, [.ref (sa 0), .ref (ja 0), .ref (ta 0), .ref h, .ref q]))] : va_W), ([(h, .inr (0, [.ref g, .int (nI z17)]))] : va_W), ([(g, .inl (cy 3, 6, (.inr (.inr (.inr (.inr (q_rf L16)))))))] : va_W), plW cy L16, stW cy sa (q_rfu v), joW cy ja w] : List va_W).flatten H := hP
  have hD : va_D A ([([(x, .inr (4, [.ref (sa 0), .ref (ja 0), .ref (ta 0), .ref h, .ref q]))] : va_W), ([(h, .inr (0, [.ref g, .int (nI z17)]))] : va_W), ([(g, .inl (cy 3, 6, (.inr (.inr (.inr (.inr (q_rf L16)))))))] : va_W), plW cy L16, stW cy sa (q_rfu v), joW cy ja w] : List va_W).flatten := hD
  have hP := wl_Po (bs' := [([(x, .inr (4, [.ref (sa 0), .ref (ja 0), .ref (ta 0), .ref h, .ref q]))] : va_W), ([(h, .inr (0, [.ref g, .int (nI z17)]))] : va_W), ([(g, .inl (cy 3, 6, (.inr (.inr (.inr (.inr (q_rf L16)))))))] : va_W), plW cy L16, joW cy ja w, stW cy sa (q_rfu v)]) [0, 1, 2, 3, 5, 4] 6 rfl (by decide) rfl hP
  have hD := wl_Do (bs' := [([(x, .inr (4, [.ref (sa 0), .ref (ja 0), .ref (ta 0), .ref h, .ref q]))] : va_W), ([(h, .inr (0, [.ref g, .int (nI z17)]))] : va_W), ([(g, .inl (cy 3, 6, (.inr (.inr (.inr (.inr (q_rf L16)))))))] : va_W), plW cy L16, joW cy ja w, stW cy sa (q_rfu v)]) [0, 1, 2, 3, 5, 4] 6 rfl (by decide) rfl hD
  exact wl_Ri (bs := [([(x, .inr (4, [.ref (sa 0), .ref (ja 0), .ref (ta 0), .ref h, .ref q]))] : va_W), ([(h, .inr (0, [.ref g, .int (nI z17)]))] : va_W), ([(g, .inl (cy 3, 6, (.inr (.inr (.inr (.inr (q_rf L16)))))))] : va_W), plW cy L16, joW cy ja w, stW cy sa (q_rfu v)]) (r := 1) hx hb hr hlocks hAe hP hD hS (by exact ⟨L16, z17, _, _, n, T, rfl, rfl, f8, f9, f10, p_ok_rfu hok, by omega⟩) dL_act_38
set_option maxHeartbeats 4000000 in
set_option maxRecDepth 100000 in
theorem m_L_act5 (l : Launch) (D : va_G) (cy : Nat → ClassId) (x : Nat) (sa ja ta : Nat → Nat) (h q : Nat) (g : Nat) (L : HsL) (z : Nat) (w : Nat → Nat → Int32) (v : Nat → Nat → Int32) (n T y : Nat) (sz : Nat) (hz : z ≤ L.length) (hL : L.length ≤ 6) (hok : p_ok v n T) (hy : y < 2 ^ 31) (hc0 : 8 ≤ y % 16) (hc1 : y % 16 < 10) : Met l yL_act wsL_act ({ frames := 8, cells := 8, slots := 176, locals := 300 } : Room) (wl_ic D cy (wl_T9 (va_A ([([(x, .inr (4, [.ref (sa 0), .ref (ja 0), .ref (ta 0), .ref h, .ref q]))] : va_W), ([(h, .inr (0, [.ref g, .int (nI z)]))] : va_W), ([(g, .inl (cy 3, 6, (.inr (.inr (.inr (.inr (q_rf L)))))))] : va_W), plW cy L, joW cy ja w, stW cy sa v] : List va_W).flatten sz)) [([(x, .inr (4, [.ref (sa 0), .ref (ja 0), .ref (ta 0), .ref h, .ref q]))] : va_W), ([(h, .inr (0, [.ref g, .int (nI z)]))] : va_W), ([(g, .inl (cy 3, 6, (.inr (.inr (.inr (.inr (q_rf L)))))))] : va_W), plW cy L, joW cy ja w, stW cy sa v] sz [.ref x, .int (nI y)]) (va_Qi (fun (r : Int32) (bs : List va_W) => ∃ (L1 : HsL) (z1 : Nat) (v1 : Nat → Nat → Int32) (w1 : Nat → Nat → Int32) (n1 : Nat) (T1 : Nat), r = 1 ∧ bs = [([(x, .inr (4, [.ref (sa 0), .ref (ja 0), .ref (ta 0), .ref h, .ref q]))] : va_W), ([(h, .inr (0, [.ref g, .int (nI z1)]))] : va_W), ([(g, .inl (cy 3, 6, (.inr (.inr (.inr (.inr (q_rf L1)))))))] : va_W), plW cy L1, joW cy ja w1, stW cy sa v1] ∧ z1 ≤ L1.length ∧ L1.length ≤ 6 ∧ (L1.take z1).map Prod.snd = q_push ((L.take z).map Prod.snd) v ∧ p_ok v1 n1 T1 ∧ T1 ≤ T + 8) (wl_ib D [([(x, .inr (4, [.ref (sa 0), .ref (ja 0), .ref (ta 0), .ref h, .ref q]))] : va_W), ([(h, .inr (0, [.ref g, .int (nI z)]))] : va_W), ([(g, .inl (cy 3, 6, (.inr (.inr (.inr (.inr (q_rf L)))))))] : va_W), plW cy L, joW cy ja w, stW cy sa v] sz) (va_A ([([(x, .inr (4, [.ref (sa 0), .ref (ja 0), .ref (ta 0), .ref h, .ref q]))] : va_W), ([(h, .inr (0, [.ref g, .int (nI z)]))] : va_W), ([(g, .inl (cy 3, 6, (.inr (.inr (.inr (.inr (q_rf L)))))))] : va_W), plW cy L, joW cy ja w, stW cy sa v] : List va_W).flatten sz)) 8 176 (va_A ([([(x, .inr (4, [.ref (sa 0), .ref (ja 0), .ref (ta 0), .ref h, .ref q]))] : va_W), ([(h, .inr (0, [.ref g, .int (nI z)]))] : va_W), ([(g, .inl (cy 3, 6, (.inr (.inr (.inr (.inr (q_rf L)))))))] : va_W), plW cy L, joW cy ja w, stW cy sa v] : List va_W).flatten sz) := by
  refine wl_ofI (cc := cL_act) (maxL := 8) (ret := (some .int)) (by decide) rfl (Nat.le_of_ble_eq_true rfl) ?_
  intro p e s m below meth c ls A hx hb hr hts hown hlocks hml hnm hsz hAe hP hK hD hX hA hS hl
  rw [hAe] at hX
  have hl : lv_has ls 8 [(0, .ref x), (1, .int (nI y))] := hl
  have hn := hok.2.1
  have hn2 := hok.1
  have hg := p_gap (w := w) hok
  have hg96 := hg.2.1.2.2
  refine lv_iload_n hx hb dL_act_0 rfl (lv_at hl 1 rfl) ?_
  refine lv_bipush (v := 16) hx hb dL_act_1 (by decide) ?_
  refine lv_irem hx hb dL_act_3 (by decide) ?_
  refine wl_top (y := nI (y % 16)) (pk_rem (a := y) (d := 16) (by omega) (by omega) (by omega)) ?_
  refine lv_istore_n (lv' := [(2, .int (nI (y % 16))), (0, .ref x), (1, .int (nI y))]) hx hb dL_act_4 rfl hl (by decide) rfl (fun ls hl => ?_)
  refine lv_iload_n hx hb dL_act_5 rfl (lv_at hl 2 rfl) ?_
  refine lv_bipush (v := 16) hx hb dL_act_6 (by decide) ?_
  refine lv_idiv hx hb dL_act_8 (by decide) ?_
  refine wl_top (y := nI (y / 16)) (pk_div (a := y) (d := 16) (by omega) (by omega) (by omega)) ?_
  refine lv_istore_n (lv' := [(3, .int (nI (y / 16))), (2, .int (nI (y % 16))), (0, .ref x), (1, .int (nI y))]) hx hb dL_act_9 rfl hl (by decide) rfl (fun ls hl => ?_)
  refine lv_iload_n hx hb dL_act_10 rfl (lv_at hl 0 rfl) ?_
  refine lv_bipush (v := 8) hx hb dL_act_11 (by decide) ?_
  refine lv_irem hx hb dL_act_13 (by decide) ?_
  refine wl_top (y := nI ((y / 16) % 8)) (pk_rem (a := y / 16) (d := 8) (by omega) (by omega) (by omega)) ?_
  refine lv_istore (lv' := [(4, .int (nI ((y / 16) % 8))), (3, .int (nI (y / 16))), (2, .int (nI (y % 16))), (0, .ref x), (1, .int (nI y))]) hx hb dL_act_14 hl (by decide) rfl (fun ls hl => ?_)
  refine lv_iload_n hx hb dL_act_16 rfl (lv_at hl 2 rfl) ?_
  refine lv_bipush (v := 8) hx hb dL_act_17 (by decide) ?_
  refine wl_icmp_ge (tgt := 39) hx hb (y % 16) 8 dL_act_19 (by decide) (by omega) (by omega) (fun c1 => ?_) (fun c1 => absurd c1 (by omega))
  refine lv_iload_n hx hb dL_act_39 rfl (lv_at hl 2 rfl) ?_
  refine lv_bipush (v := 10) hx hb dL_act_40 (by decide) ?_
  refine wl_icmp_ge (tgt := 50) hx hb (y % 16) 10 dL_act_42 (by decide) (by omega) (by omega) (fun c2 => absurd c2 (by omega)) (fun c2 => ?_)
  refine lv_aload_n hx hb dL_act_45 rfl (lv_at hl 3 rfl) ?_
  refine wl_iS (As := [.ref x]) (rest := []) (bsC := [([(x, .inr (4, [.ref (sa 0), .ref (ja 0), .ref (ta 0), .ref h, .ref q]))] : va_W), ([(h, .inr (0, [.ref g, .int (nI z)]))] : va_W), ([(g, .inl (cy 3, 6, (.inr (.inr (.inr (.inr (q_rf L)))))))] : va_W), plW cy L, joW cy ja w, stW cy sa v]) (bsR := []) ⟨hx, hb, hml, hown, hts⟩ (m_L_gap l D cy x sa ja ta h q g L z w v n T s.heap.size hz hL hok) (va_cwS 1 hts gL_act_L_gap rfl rfl rfl (by decide +kernel) ⟨Nat.le_of_ble_eq_true rfl, Nat.le_of_ble_eq_true rfl⟩) wl_T9_b (fun U hU hW => wl_T9_w hU hW hS (wl_freeB (bsC := [([(x, .inr (4, [.ref (sa 0), .ref (ja 0), .ref (ta 0), .ref h, .ref q]))] : va_W), ([(h, .inr (0, [.ref g, .int (nI z)]))] : va_W), ([(g, .inl (cy 3, 6, (.inr (.inr (.inr (.inr (q_rf L)))))))] : va_W), plW cy L, joW cy ja w, stW cy sa v]) (bsR := []) hD hS hA) hX) hK hP hD hS hA rfl hl.1 rfl (Nat.le_of_ble_eq_true rfl) dL_act_46 ⟨Nat.le_of_ble_eq_true rfl, Nat.le_of_ble_eq_true rfl⟩ (fun r3 bs4 H locs e5 _ _ hP hD hS => ?_)
  obtain ⟨L16, z17, er3, e5, f8, f9, f10⟩ := e5
  have e5 : bs4 = [([(x, .inr (4, [.ref (sa 0), .ref (ja 0), .ref (ta 0), .ref h, .ref q]))] : va_W), ([(h, .inr (0, [.ref g, .int (nI z17)]))] : va_W), ([(g, .inl (cy 3, 6, (.inr (.inr (.inr (.inr (q_rf L16)))))))] : va_W), plW cy L16, joW cy ja (q_gt v w n 8), stW cy sa (q_gp v (q_gt v w n 8))] := e5
  subst e5
  have er3 : r3 = 1 := er3
  subst er3
  refine W.widen (k := 8) (n := 176) (Nat.le_refl _) (Nat.le_refl _) ?_
  have hP : va_P D vwCl ([([(x, .inr (4, [.ref (sa 0), .ref (ja 0), .ref (ta 0), .ref h, .ref q]))] : va_W), ([(h, .inr (0, [.ref g, .int (nI z17)]))] : va_W), ([(g, .inl (cy 3, 6, (.inr (.inr (.inr (.inr (q_rf L16)))))))] : va_W), plW cy L16, joW cy ja (q_gt v w n 8), stW cy sa (q_gp v (q_gt v w n 8))] : List va_W).flatten H := hP
  have hD : va_D A ([([(x, .inr (4, [.ref (sa 0), .ref (ja 0), .ref (ta 0), .ref h, .ref q]))] : va_W), ([(h, .inr (0, [.ref g, .int (nI z17)]))] : va_W), ([(g, .inl (cy 3, 6, (.inr (.inr (.inr (.inr (q_rf L16)))))))] : va_W), plW cy L16, joW cy ja (q_gt v w n 8), stW cy sa (q_gp v (q_gt v w n 8))] : List va_W).flatten := hD
  exact wl_Ri (bs := [([(x, .inr (4, [.ref (sa 0), .ref (ja 0), .ref (ta 0), .ref h, .ref q]))] : va_W), ([(h, .inr (0, [.ref g, .int (nI z17)]))] : va_W), ([(g, .inl (cy 3, 6, (.inr (.inr (.inr (.inr (q_rf L16)))))))] : va_W), plW cy L16, joW cy ja (q_gt v w n 8), stW cy sa (q_gp v (q_gt v w n 8))]) (r := 1) hx hb hr hlocks hAe hP hD hS (by exact ⟨L16, z17, _, _, 0, T + q_gk v n 8 / 12, rfl, rfl, f8, f9, f10, hg.2.2.2.2.2.2.2, by omega⟩) dL_act_49
set_option maxHeartbeats 4000000 in
set_option maxRecDepth 100000 in
theorem m_L_act6 (l : Launch) (D : va_G) (cy : Nat → ClassId) (x : Nat) (sa ja ta : Nat → Nat) (h q : Nat) (g : Nat) (L : HsL) (z : Nat) (w : Nat → Nat → Int32) (v : Nat → Nat → Int32) (n T y : Nat) (sz : Nat) (hz : z ≤ L.length) (hL : L.length ≤ 6) (hok : p_ok v n T) (hy : y < 2 ^ 31) (hc0 : y % 16 = 10) : Met l yL_act wsL_act ({ frames := 8, cells := 8, slots := 176, locals := 300 } : Room) (wl_ic D cy (wl_T9 (va_A ([([(x, .inr (4, [.ref (sa 0), .ref (ja 0), .ref (ta 0), .ref h, .ref q]))] : va_W), ([(h, .inr (0, [.ref g, .int (nI z)]))] : va_W), ([(g, .inl (cy 3, 6, (.inr (.inr (.inr (.inr (q_rf L)))))))] : va_W), plW cy L, joW cy ja w, stW cy sa v] : List va_W).flatten sz)) [([(x, .inr (4, [.ref (sa 0), .ref (ja 0), .ref (ta 0), .ref h, .ref q]))] : va_W), ([(h, .inr (0, [.ref g, .int (nI z)]))] : va_W), ([(g, .inl (cy 3, 6, (.inr (.inr (.inr (.inr (q_rf L)))))))] : va_W), plW cy L, joW cy ja w, stW cy sa v] sz [.ref x, .int (nI y)]) (va_Qi (fun (r : Int32) (bs : List va_W) => ∃ (L1 : HsL) (z1 : Nat) (v1 : Nat → Nat → Int32) (w1 : Nat → Nat → Int32) (n1 : Nat) (T1 : Nat), r = 1 ∧ bs = [([(x, .inr (4, [.ref (sa 0), .ref (ja 0), .ref (ta 0), .ref h, .ref q]))] : va_W), ([(h, .inr (0, [.ref g, .int (nI z1)]))] : va_W), ([(g, .inl (cy 3, 6, (.inr (.inr (.inr (.inr (q_rf L1)))))))] : va_W), plW cy L1, joW cy ja w1, stW cy sa v1] ∧ z1 ≤ L1.length ∧ L1.length ≤ 6 ∧ (L1.take z1).map Prod.snd = q_push ((L.take z).map Prod.snd) v ∧ p_ok v1 n1 T1 ∧ T1 ≤ T + 8) (wl_ib D [([(x, .inr (4, [.ref (sa 0), .ref (ja 0), .ref (ta 0), .ref h, .ref q]))] : va_W), ([(h, .inr (0, [.ref g, .int (nI z)]))] : va_W), ([(g, .inl (cy 3, 6, (.inr (.inr (.inr (.inr (q_rf L)))))))] : va_W), plW cy L, joW cy ja w, stW cy sa v] sz) (va_A ([([(x, .inr (4, [.ref (sa 0), .ref (ja 0), .ref (ta 0), .ref h, .ref q]))] : va_W), ([(h, .inr (0, [.ref g, .int (nI z)]))] : va_W), ([(g, .inl (cy 3, 6, (.inr (.inr (.inr (.inr (q_rf L)))))))] : va_W), plW cy L, joW cy ja w, stW cy sa v] : List va_W).flatten sz)) 8 176 (va_A ([([(x, .inr (4, [.ref (sa 0), .ref (ja 0), .ref (ta 0), .ref h, .ref q]))] : va_W), ([(h, .inr (0, [.ref g, .int (nI z)]))] : va_W), ([(g, .inl (cy 3, 6, (.inr (.inr (.inr (.inr (q_rf L)))))))] : va_W), plW cy L, joW cy ja w, stW cy sa v] : List va_W).flatten sz) := by
  refine wl_ofI (cc := cL_act) (maxL := 8) (ret := (some .int)) (by decide) rfl (Nat.le_of_ble_eq_true rfl) ?_
  intro p e s m below meth c ls A hx hb hr hts hown hlocks hml hnm hsz hAe hP hK hD hX hA hS hl
  rw [hAe] at hX
  have hl : lv_has ls 8 [(0, .ref x), (1, .int (nI y))] := hl
  have hn := hok.2.1
  have hn2 := hok.1
  refine lv_iload_n hx hb dL_act_0 rfl (lv_at hl 1 rfl) ?_
  refine lv_bipush (v := 16) hx hb dL_act_1 (by decide) ?_
  refine lv_irem hx hb dL_act_3 (by decide) ?_
  refine wl_top (y := nI (y % 16)) (pk_rem (a := y) (d := 16) (by omega) (by omega) (by omega)) ?_
  refine lv_istore_n (lv' := [(2, .int (nI (y % 16))), (0, .ref x), (1, .int (nI y))]) hx hb dL_act_4 rfl hl (by decide) rfl (fun ls hl => ?_)
  refine lv_iload_n hx hb dL_act_5 rfl (lv_at hl 2 rfl) ?_
  refine lv_bipush (v := 16) hx hb dL_act_6 (by decide) ?_
  refine lv_idiv hx hb dL_act_8 (by decide) ?_
  refine wl_top (y := nI (y / 16)) (pk_div (a := y) (d := 16) (by omega) (by omega) (by omega)) ?_
  refine lv_istore_n (lv' := [(3, .int (nI (y / 16))), (2, .int (nI (y % 16))), (0, .ref x), (1, .int (nI y))]) hx hb dL_act_9 rfl hl (by decide) rfl (fun ls hl => ?_)
  refine lv_iload_n hx hb dL_act_10 rfl (lv_at hl 0 rfl) ?_
  refine lv_bipush (v := 8) hx hb dL_act_11 (by decide) ?_
  refine lv_irem hx hb dL_act_13 (by decide) ?_
  refine wl_top (y := nI ((y / 16) % 8)) (pk_rem (a := y / 16) (d := 8) (by omega) (by omega) (by omega)) ?_
  refine lv_istore (lv' := [(4, .int (nI ((y / 16) % 8))), (3, .int (nI (y / 16))), (2, .int (nI (y % 16))), (0, .ref x), (1, .int (nI y))]) hx hb dL_act_14 hl (by decide) rfl (fun ls hl => ?_)
  refine lv_iload_n hx hb dL_act_16 rfl (lv_at hl 2 rfl) ?_
  refine lv_bipush (v := 8) hx hb dL_act_17 (by decide) ?_
  refine wl_icmp_ge (tgt := 39) hx hb (y % 16) 8 dL_act_19 (by decide) (by omega) (by omega) (fun c1 => ?_) (fun c1 => absurd c1 (by omega))
  refine lv_iload_n hx hb dL_act_39 rfl (lv_at hl 2 rfl) ?_
  refine lv_bipush (v := 10) hx hb dL_act_40 (by decide) ?_
  refine wl_icmp_ge (tgt := 50) hx hb (y % 16) 10 dL_act_42 (by decide) (by omega) (by omega) (fun c2 => ?_) (fun c2 => absurd c2 (by omega))
  refine lv_iload_n hx hb dL_act_50 rfl (lv_at hl 2 rfl) ?_
  refine lv_bipush (v := 10) hx hb dL_act_51 (by decide) ?_
  refine wl_icmp_ne (tgt := 111) hx hb (y % 16) 10 dL_act_53 (by decide) (by omega) (by omega) (fun c3 => absurd c3 (by omega)) (fun c3 => ?_)
  refine lv_aload_n hx hb dL_act_56 rfl (lv_at hl 3 rfl) ?_
  refine lv_iconst (v := 0) hx hb dL_act_57 (by decide) ?_
  refine wl_pV (As := [.int 0]) (rest := []) ⟨hx, hb, hml, hown, hts⟩ (m_X4_cnt0n l D cy x sa ja ta h q v z g n hn) (cwV 1 hts gL_act_X4_count rfl rfl rfl (by decide +kernel) ⟨Nat.le_of_ble_eq_true rfl, Nat.le_of_ble_eq_true rfl⟩) hK hP [0, 5, 1] rfl rfl rfl rfl rfl rfl hl.1 rfl (Nat.le_of_ble_eq_true rfl) dL_act_58 ⟨Nat.le_of_ble_eq_true rfl, Nat.le_of_ble_eq_true rfl⟩ (fun r4 er4 => ?_)
  have er4 : r4 = nI n := er4
  subst er4
  refine lv_istore (lv' := [(5, .int (nI n)), (4, .int (nI ((y / 16) % 8))), (3, .int (nI (y / 16))), (2, .int (nI (y % 16))), (0, .ref x), (1, .int (nI y))]) hx hb dL_act_61 hl (by decide) rfl (fun ls hl => ?_)
  refine lv_aload_n hx hb dL_act_63 rfl (lv_at hl 4 rfl) ?_
  refine lv_iconst (v := 5) hx hb dL_act_64 (by decide) ?_
  refine wl_pV (As := [.int 5]) (rest := []) ⟨hx, hb, hml, hown, hts⟩ (m_X4_cnt5 l D cy x sa ja ta h q v z g ) (cwV 1 hts gL_act_X4_count rfl rfl rfl (by decide +kernel) ⟨Nat.le_of_ble_eq_true rfl, Nat.le_of_ble_eq_true rfl⟩) hK hP [0, 5, 1] rfl rfl rfl rfl rfl rfl hl.1 rfl (Nat.le_of_ble_eq_true rfl) dL_act_65 ⟨Nat.le_of_ble_eq_true rfl, Nat.le_of_ble_eq_true rfl⟩ (fun r5 er5 => ?_)
  have er5 : r5 = v 7 4 := er5
  subst er5
  refine lv_istore (lv' := [(6, .int (v 7 4)), (5, .int (nI n)), (4, .int (nI ((y / 16) % 8))), (3, .int (nI (y / 16))), (2, .int (nI (y % 16))), (0, .ref x), (1, .int (nI y))]) hx hb dL_act_68 hl (by decide) rfl (fun ls hl => ?_)
  refine lv_aload_n hx hb dL_act_70 rfl (lv_at hl 5 rfl) ?_
  have hP := wl_Po (bs' := [([(x, .inr (4, [.ref (sa 0), .ref (ja 0), .ref (ta 0), .ref h, .ref q]))] : va_W), ([(h, .inr (0, [.ref g, .int (nI z)]))] : va_W), ([(g, .inl (cy 3, 6, (.inr (.inr (.inr (.inr (q_rf L)))))))] : va_W), plW cy L, stW cy sa v, joW cy ja w]) [0, 1, 2, 3, 5, 4] 6 rfl (by decide) rfl hP
  have hD := wl_Do (bs' := [([(x, .inr (4, [.ref (sa 0), .ref (ja 0), .ref (ta 0), .ref h, .ref q]))] : va_W), ([(h, .inr (0, [.ref g, .int (nI z)]))] : va_W), ([(g, .inl (cy 3, 6, (.inr (.inr (.inr (.inr (q_rf L)))))))] : va_W), plW cy L, stW cy sa v, joW cy ja w]) [0, 1, 2, 3, 5, 4] 6 rfl (by decide) rfl hD
  refine wl_iV (As := []) (rest := []) (bsC := [([(x, .inr (4, [.ref (sa 0), .ref (ja 0), .ref (ta 0), .ref h, .ref q]))] : va_W), ([(h, .inr (0, [.ref g, .int (nI z)]))] : va_W), ([(g, .inl (cy 3, 6, (.inr (.inr (.inr (.inr (q_rf L)))))))] : va_W), plW cy L, stW cy sa v]) (bsR := [joW cy ja w]) ⟨hx, hb, hml, hown, hts⟩ (m_X4_drop l D cy x sa ja ta h q g L z v s.heap.size hz hL) (cwV 0 hts gL_act_X4_drop rfl rfl rfl (by decide +kernel) ⟨Nat.le_of_ble_eq_true rfl, Nat.le_of_ble_eq_true rfl⟩) wl_E_b (fun U _ hW => wl_E_w hW hX.1.1) hK hP hD hS hA rfl rfl rfl rfl rfl hl.1 rfl (Nat.le_of_ble_eq_true rfl) dL_act_71 ⟨Nat.le_of_ble_eq_true rfl, Nat.le_of_ble_eq_true rfl⟩ (fun r6 bs7 H locs e8 _ _ hP hD hS => ?_)
  obtain ⟨L19, z110, er6, e8, f11, f12, f13⟩ := e8
  have e8 : bs7 = [([(x, .inr (4, [.ref (sa 0), .ref (ja 0), .ref (ta 0), .ref h, .ref q]))] : va_W), ([(h, .inr (0, [.ref g, .int (nI z110)]))] : va_W), ([(g, .inl (cy 3, 6, (.inr (.inr (.inr (.inr (q_rf L19)))))))] : va_W), plW cy L19, stW cy sa (su (su v 7 4 (v 7 4 + v 7 0)) 7 0 0)] := e8
  subst e8
  have er6 : r6 = v 7 0 := er6
  subst er6
  refine W.widen (k := 8) (n := 176) (Nat.le_refl _) (Nat.le_refl _) ?_
  have hP : va_P D vwCl ([([(x, .inr (4, [.ref (sa 0), .ref (ja 0), .ref (ta 0), .ref h, .ref q]))] : va_W), ([(h, .inr (0, [.ref g, .int (nI z110)]))] : va_W), ([(g, .inl (cy 3, 6, (.inr (.inr (.inr (.inr (q_rf L19)))))))] : va_W), plW cy L19, stW cy sa (su (su v 7 4 (v 7 4 + v 7 0)) 7 0 0), joW cy ja w] : List va_W).flatten H := hP
  have hD : va_D A ([([(x, .inr (4, [.ref (sa 0), .ref (ja 0), .ref (ta 0), .ref h, .ref q]))] : va_W), ([(h, .inr (0, [.ref g, .int (nI z110)]))] : va_W), ([(g, .inl (cy 3, 6, (.inr (.inr (.inr (.inr (q_rf L19)))))))] : va_W), plW cy L19, stW cy sa (su (su v 7 4 (v 7 4 + v 7 0)) 7 0 0), joW cy ja w] : List va_W).flatten := hD
  have hP := wl_Po (bs' := [([(x, .inr (4, [.ref (sa 0), .ref (ja 0), .ref (ta 0), .ref h, .ref q]))] : va_W), ([(h, .inr (0, [.ref g, .int (nI z110)]))] : va_W), ([(g, .inl (cy 3, 6, (.inr (.inr (.inr (.inr (q_rf L19)))))))] : va_W), plW cy L19, joW cy ja w, stW cy sa (su (su v 7 4 (v 7 4 + v 7 0)) 7 0 0)]) [0, 1, 2, 3, 5, 4] 6 rfl (by decide) rfl hP
  have hD := wl_Do (bs' := [([(x, .inr (4, [.ref (sa 0), .ref (ja 0), .ref (ta 0), .ref h, .ref q]))] : va_W), ([(h, .inr (0, [.ref g, .int (nI z110)]))] : va_W), ([(g, .inl (cy 3, 6, (.inr (.inr (.inr (.inr (q_rf L19)))))))] : va_W), plW cy L19, joW cy ja w, stW cy sa (su (su v 7 4 (v 7 4 + v 7 0)) 7 0 0)]) [0, 1, 2, 3, 5, 4] 6 rfl (by decide) rfl hD
  refine lv_istore (lv' := [(7, .int (v 7 0)), (6, .int (v 7 4)), (5, .int (nI n)), (4, .int (nI ((y / 16) % 8))), (3, .int (nI (y / 16))), (2, .int (nI (y % 16))), (0, .ref x), (1, .int (nI y))]) hx hb dL_act_74 hl (by decide) rfl (fun ls hl => ?_)
  refine lv_iload hx hb dL_act_76 (lv_at hl 0 rfl) ?_
  refine lv_iload hx hb dL_act_78 (lv_at hl 2 rfl) ?_
  refine lv_icmp_ne (tgt := 108) hx hb dL_act_80 (by decide) (fun c14 => absurd hok.2.1 c14) (fun c14 => ?_)
  refine lv_aload_n hx hb dL_act_83 rfl (lv_at hl 6 rfl) ?_
  refine lv_iconst (v := 0) hx hb dL_act_84 (by decide) ?_
  refine wl_pV (As := [.int 0]) (rest := []) ⟨hx, hb, hml, hown, hts⟩ (m_X4_cnt0 l D cy x sa ja ta h q (su (su v 7 4 (v 7 4 + v 7 0)) 7 0 0) z110 g ) (cwV 1 hts gL_act_X4_count rfl rfl rfl (by decide +kernel) ⟨Nat.le_of_ble_eq_true rfl, Nat.le_of_ble_eq_true rfl⟩) hK hP [0, 5, 1] rfl rfl rfl rfl rfl rfl hl.1 rfl (Nat.le_of_ble_eq_true rfl) dL_act_85 ⟨Nat.le_of_ble_eq_true rfl, Nat.le_of_ble_eq_true rfl⟩ (fun r15 er15 => ?_)
  have er15 : r15 = (su (su v 7 4 (v 7 4 + v 7 0)) 7 0 0) 7 0 := er15
  subst er15
  refine lv_if_ne (tgt := 108) hx hb dL_act_88 (by decide) (fun c16 => absurd rfl c16) (fun c16 => ?_)
  refine lv_aload_n hx hb dL_act_91 rfl (lv_at hl 6 rfl) ?_
  refine lv_iconst (v := 5) hx hb dL_act_92 (by decide) ?_
  refine wl_pV (As := [.int 5]) (rest := []) ⟨hx, hb, hml, hown, hts⟩ (m_X4_cnt5 l D cy x sa ja ta h q (su (su v 7 4 (v 7 4 + v 7 0)) 7 0 0) z110 g ) (cwV 1 hts gL_act_X4_count rfl rfl rfl (by decide +kernel) ⟨Nat.le_of_ble_eq_true rfl, Nat.le_of_ble_eq_true rfl⟩) hK hP [0, 5, 1] rfl rfl rfl rfl rfl rfl hl.1 rfl (Nat.le_of_ble_eq_true rfl) dL_act_93 ⟨Nat.le_of_ble_eq_true rfl, Nat.le_of_ble_eq_true rfl⟩ (fun r17 er17 => ?_)
  have er17 : r17 = (su (su v 7 4 (v 7 4 + v 7 0)) 7 0 0) 7 4 := er17
  subst er17
  refine lv_iload hx hb dL_act_96 (lv_at hl 1 rfl) ?_
  refine lv_iload hx hb dL_act_98 (lv_at hl 2 rfl) ?_
  refine lv_iadd hx hb dL_act_100 ?_
  refine lv_icmp_ne (tgt := 108) hx hb dL_act_101 (by decide) (fun c18 => absurd (show v 7 4 + v 7 0 = v 7 4 + nI n by rw [hok.2.1]) c18) (fun c18 => ?_)
  refine lv_iconst (v := 1) hx hb dL_act_104 (by decide) ?_
  refine lv_goto (tgt := 110) hx hb dL_act_105 (by decide) ?_
  exact wl_Ri (bs := [([(x, .inr (4, [.ref (sa 0), .ref (ja 0), .ref (ta 0), .ref h, .ref q]))] : va_W), ([(h, .inr (0, [.ref g, .int (nI z110)]))] : va_W), ([(g, .inl (cy 3, 6, (.inr (.inr (.inr (.inr (q_rf L19)))))))] : va_W), plW cy L19, joW cy ja w, stW cy sa (su (su v 7 4 (v 7 4 + v 7 0)) 7 0 0)]) (r := 1) hx hb hr hlocks hAe hP hD hS (by exact ⟨L19, z110, _, _, 0, T, rfl, rfl, f11, f12, f13, p_ok_drop hok, by omega⟩) dL_act_110
set_option maxHeartbeats 4000000 in
set_option maxRecDepth 100000 in
theorem m_L_act7 (l : Launch) (D : va_G) (cy : Nat → ClassId) (x : Nat) (sa ja ta : Nat → Nat) (h q : Nat) (g : Nat) (L : HsL) (z : Nat) (w : Nat → Nat → Int32) (v : Nat → Nat → Int32) (n T y : Nat) (sz : Nat) (hz : z ≤ L.length) (hL : L.length ≤ 6) (hok : p_ok v n T) (hy : y < 2 ^ 31) (hc0 : 11 ≤ y % 16) (hc1 : y % 16 < 13) : Met l yL_act wsL_act ({ frames := 8, cells := 8, slots := 176, locals := 300 } : Room) (wl_ic D cy (wl_T9 (va_A ([([(x, .inr (4, [.ref (sa 0), .ref (ja 0), .ref (ta 0), .ref h, .ref q]))] : va_W), ([(h, .inr (0, [.ref g, .int (nI z)]))] : va_W), ([(g, .inl (cy 3, 6, (.inr (.inr (.inr (.inr (q_rf L)))))))] : va_W), plW cy L, joW cy ja w, stW cy sa v] : List va_W).flatten sz)) [([(x, .inr (4, [.ref (sa 0), .ref (ja 0), .ref (ta 0), .ref h, .ref q]))] : va_W), ([(h, .inr (0, [.ref g, .int (nI z)]))] : va_W), ([(g, .inl (cy 3, 6, (.inr (.inr (.inr (.inr (q_rf L)))))))] : va_W), plW cy L, joW cy ja w, stW cy sa v] sz [.ref x, .int (nI y)]) (va_Qi (fun (r : Int32) (bs : List va_W) => ∃ (L1 : HsL) (z1 : Nat) (v1 : Nat → Nat → Int32) (w1 : Nat → Nat → Int32) (n1 : Nat) (T1 : Nat), r = 1 ∧ bs = [([(x, .inr (4, [.ref (sa 0), .ref (ja 0), .ref (ta 0), .ref h, .ref q]))] : va_W), ([(h, .inr (0, [.ref g, .int (nI z1)]))] : va_W), ([(g, .inl (cy 3, 6, (.inr (.inr (.inr (.inr (q_rf L1)))))))] : va_W), plW cy L1, joW cy ja w1, stW cy sa v1] ∧ z1 ≤ L1.length ∧ L1.length ≤ 6 ∧ (L1.take z1).map Prod.snd = q_push ((L.take z).map Prod.snd) v ∧ p_ok v1 n1 T1 ∧ T1 ≤ T + 8) (wl_ib D [([(x, .inr (4, [.ref (sa 0), .ref (ja 0), .ref (ta 0), .ref h, .ref q]))] : va_W), ([(h, .inr (0, [.ref g, .int (nI z)]))] : va_W), ([(g, .inl (cy 3, 6, (.inr (.inr (.inr (.inr (q_rf L)))))))] : va_W), plW cy L, joW cy ja w, stW cy sa v] sz) (va_A ([([(x, .inr (4, [.ref (sa 0), .ref (ja 0), .ref (ta 0), .ref h, .ref q]))] : va_W), ([(h, .inr (0, [.ref g, .int (nI z)]))] : va_W), ([(g, .inl (cy 3, 6, (.inr (.inr (.inr (.inr (q_rf L)))))))] : va_W), plW cy L, joW cy ja w, stW cy sa v] : List va_W).flatten sz)) 8 176 (va_A ([([(x, .inr (4, [.ref (sa 0), .ref (ja 0), .ref (ta 0), .ref h, .ref q]))] : va_W), ([(h, .inr (0, [.ref g, .int (nI z)]))] : va_W), ([(g, .inl (cy 3, 6, (.inr (.inr (.inr (.inr (q_rf L)))))))] : va_W), plW cy L, joW cy ja w, stW cy sa v] : List va_W).flatten sz) := by
  refine wl_ofI (cc := cL_act) (maxL := 8) (ret := (some .int)) (by decide) rfl (Nat.le_of_ble_eq_true rfl) ?_
  intro p e s m below meth c ls A hx hb hr hts hown hlocks hml hnm hsz hAe hP hK hD hX hA hS hl
  rw [hAe] at hX
  have hl : lv_has ls 8 [(0, .ref x), (1, .int (nI y))] := hl
  have hn := hok.2.1
  have hn2 := hok.1
  refine lv_iload_n hx hb dL_act_0 rfl (lv_at hl 1 rfl) ?_
  refine lv_bipush (v := 16) hx hb dL_act_1 (by decide) ?_
  refine lv_irem hx hb dL_act_3 (by decide) ?_
  refine wl_top (y := nI (y % 16)) (pk_rem (a := y) (d := 16) (by omega) (by omega) (by omega)) ?_
  refine lv_istore_n (lv' := [(2, .int (nI (y % 16))), (0, .ref x), (1, .int (nI y))]) hx hb dL_act_4 rfl hl (by decide) rfl (fun ls hl => ?_)
  refine lv_iload_n hx hb dL_act_5 rfl (lv_at hl 2 rfl) ?_
  refine lv_bipush (v := 16) hx hb dL_act_6 (by decide) ?_
  refine lv_idiv hx hb dL_act_8 (by decide) ?_
  refine wl_top (y := nI (y / 16)) (pk_div (a := y) (d := 16) (by omega) (by omega) (by omega)) ?_
  refine lv_istore_n (lv' := [(3, .int (nI (y / 16))), (2, .int (nI (y % 16))), (0, .ref x), (1, .int (nI y))]) hx hb dL_act_9 rfl hl (by decide) rfl (fun ls hl => ?_)
  refine lv_iload_n hx hb dL_act_10 rfl (lv_at hl 0 rfl) ?_
  refine lv_bipush (v := 8) hx hb dL_act_11 (by decide) ?_
  refine lv_irem hx hb dL_act_13 (by decide) ?_
  refine wl_top (y := nI ((y / 16) % 8)) (pk_rem (a := y / 16) (d := 8) (by omega) (by omega) (by omega)) ?_
  refine lv_istore (lv' := [(4, .int (nI ((y / 16) % 8))), (3, .int (nI (y / 16))), (2, .int (nI (y % 16))), (0, .ref x), (1, .int (nI y))]) hx hb dL_act_14 hl (by decide) rfl (fun ls hl => ?_)
  refine lv_iload_n hx hb dL_act_16 rfl (lv_at hl 2 rfl) ?_
  refine lv_bipush (v := 8) hx hb dL_act_17 (by decide) ?_
  refine wl_icmp_ge (tgt := 39) hx hb (y % 16) 8 dL_act_19 (by decide) (by omega) (by omega) (fun c1 => ?_) (fun c1 => absurd c1 (by omega))
  refine lv_iload_n hx hb dL_act_39 rfl (lv_at hl 2 rfl) ?_
  refine lv_bipush (v := 10) hx hb dL_act_40 (by decide) ?_
  refine wl_icmp_ge (tgt := 50) hx hb (y % 16) 10 dL_act_42 (by decide) (by omega) (by omega) (fun c2 => ?_) (fun c2 => absurd c2 (by omega))
  refine lv_iload_n hx hb dL_act_50 rfl (lv_at hl 2 rfl) ?_
  refine lv_bipush (v := 10) hx hb dL_act_51 (by decide) ?_
  refine wl_icmp_ne (tgt := 111) hx hb (y % 16) 10 dL_act_53 (by decide) (by omega) (by omega) (fun c3 => ?_) (fun c3 => absurd c3 (by omega))
  refine lv_iload_n hx hb dL_act_111 rfl (lv_at hl 2 rfl) ?_
  refine lv_bipush (v := 13) hx hb dL_act_112 (by decide) ?_
  refine wl_icmp_ge (tgt := 201) hx hb (y % 16) 13 dL_act_114 (by decide) (by omega) (by omega) (fun c4 => absurd c4 (by omega)) (fun c4 => ?_)
  refine lv_aload_n hx hb dL_act_117 rfl (lv_at hl 3 rfl) ?_
  refine lv_iload hx hb dL_act_118 (lv_at hl 0 rfl) ?_
  refine lv_iconst (v := 0) hx hb dL_act_120 (by decide) ?_
  refine wl_pV (As := [.int (nI ((y / 16) % 8)), .int 0]) (rest := []) ⟨hx, hb, hml, hown, hts⟩ (m_X4_lof0 l D cy x sa ja ta h q v ((y / 16) % 8) (by omega)) (cwV 2 hts gL_act_X4_lampOf rfl rfl rfl (by decide +kernel) ⟨Nat.le_of_ble_eq_true rfl, Nat.le_of_ble_eq_true rfl⟩) hK hP [0, 5] rfl rfl rfl rfl rfl rfl hl.1 rfl (Nat.le_of_ble_eq_true rfl) dL_act_121 ⟨Nat.le_of_ble_eq_true rfl, Nat.le_of_ble_eq_true rfl⟩ (fun r5 er5 => ?_)
  have er5 : r5 = v 0 ((y / 16) % 8) := er5
  subst er5
  refine lv_istore (lv' := [(5, .int (v 0 ((y / 16) % 8))), (4, .int (nI ((y / 16) % 8))), (3, .int (nI (y / 16))), (2, .int (nI (y % 16))), (0, .ref x), (1, .int (nI y))]) hx hb dL_act_124 hl (by decide) rfl (fun ls hl => ?_)
  refine lv_aload_n hx hb dL_act_126 rfl (lv_at hl 4 rfl) ?_
  refine lv_iload hx hb dL_act_127 (lv_at hl 1 rfl) ?_
  refine lv_iconst (v := 3) hx hb dL_act_129 (by decide) ?_
  refine wl_pV (As := [.int (nI ((y / 16) % 8)), .int 3]) (rest := []) ⟨hx, hb, hml, hown, hts⟩ (m_X4_lof3 l D cy x sa ja ta h q v ((y / 16) % 8) (by omega)) (cwV 2 hts gL_act_X4_lampOf rfl rfl rfl (by decide +kernel) ⟨Nat.le_of_ble_eq_true rfl, Nat.le_of_ble_eq_true rfl⟩) hK hP [0, 5] rfl rfl rfl rfl rfl rfl hl.1 rfl (Nat.le_of_ble_eq_true rfl) dL_act_130 ⟨Nat.le_of_ble_eq_true rfl, Nat.le_of_ble_eq_true rfl⟩ (fun r6 er6 => ?_)
  have er6 : r6 = v 3 ((y / 16) % 8) := er6
  subst er6
  refine lv_istore (lv' := [(6, .int (v 3 ((y / 16) % 8))), (5, .int (v 0 ((y / 16) % 8))), (4, .int (nI ((y / 16) % 8))), (3, .int (nI (y / 16))), (2, .int (nI (y % 16))), (0, .ref x), (1, .int (nI y))]) hx hb dL_act_133 hl (by decide) rfl (fun ls hl => ?_)
  refine lv_iload_n hx hb dL_act_135 rfl (lv_at hl 3 rfl) ?_
  refine lv_bipush (v := 8) hx hb dL_act_136 (by decide) ?_
  refine lv_idiv hx hb dL_act_138 (by decide) ?_
  refine wl_top (y := nI ((y / 16) / 8)) (pk_div (a := y / 16) (d := 8) (by omega) (by omega) (by omega)) ?_
  refine lv_iconst (v := 3) hx hb dL_act_139 (by decide) ?_
  refine lv_irem hx hb dL_act_140 (by decide) ?_
  refine wl_top (y := nI (((y / 16) / 8) % 3)) (pk_rem (a := (y / 16) / 8) (d := 3) (by omega) (by omega) (by omega)) ?_
  have K9 : ∀ (ls : Array Slot) (v8 : Nat), v8 = (if (((y / 16) / 8) % 3) = 0 then (((y / 16) / 24) % 4) else 0) → lv_has ls 8 [(6, .int (v 3 ((y / 16) % 8))), (5, .int (v 0 ((y / 16) % 8))), (4, .int (nI ((y / 16) % 8))), (0, .ref x)] → W p l e ({ frames := 8, cells := 8, slots := 176, locals := 300 } : Room) s m ([.ref x, .int (nI y)] : List Value).toArray below meth c s.heap [] 0 0 (MQ below (va_Qi (fun (r : Int32) (bs : List va_W) => ∃ (L1 : HsL) (z1 : Nat) (v1 : Nat → Nat → Int32) (w1 : Nat → Nat → Int32) (n1 : Nat) (T1 : Nat), r = 1 ∧ bs = [([(x, .inr (4, [.ref (sa 0), .ref (ja 0), .ref (ta 0), .ref h, .ref q]))] : va_W), ([(h, .inr (0, [.ref g, .int (nI z1)]))] : va_W), ([(g, .inl (cy 3, 6, (.inr (.inr (.inr (.inr (q_rf L1)))))))] : va_W), plW cy L1, joW cy ja w1, stW cy sa v1] ∧ z1 ≤ L1.length ∧ L1.length ≤ 6 ∧ (L1.take z1).map Prod.snd = q_push ((L.take z).map Prod.snd) v ∧ p_ok v1 n1 T1 ∧ T1 ≤ T + 8) (wl_ib D [([(x, .inr (4, [.ref (sa 0), .ref (ja 0), .ref (ta 0), .ref h, .ref q]))] : va_W), ([(h, .inr (0, [.ref g, .int (nI z)]))] : va_W), ([(g, .inl (cy 3, 6, (.inr (.inr (.inr (.inr (q_rf L)))))))] : va_W), plW cy L, joW cy ja w, stW cy sa v] sz) (va_A ([([(x, .inr (4, [.ref (sa 0), .ref (ja 0), .ref (ta 0), .ref h, .ref q]))] : va_W), ([(h, .inr (0, [.ref g, .int (nI z)]))] : va_W), ([(g, .inl (cy 3, 6, (.inr (.inr (.inr (.inr (q_rf L)))))))] : va_W), plW cy L, joW cy ja w, stW cy sa v] : List va_W).flatten sz)) ([.ref x, .int (nI y)] : List Value).toArray s 8 176 (va_A ([([(x, .inr (4, [.ref (sa 0), .ref (ja 0), .ref (ta 0), .ref h, .ref q]))] : va_W), ([(h, .inr (0, [.ref g, .int (nI z)]))] : va_W), ([(g, .inl (cy 3, 6, (.inr (.inr (.inr (.inr (q_rf L)))))))] : va_W), plW cy L, joW cy ja w, stW cy sa v] : List va_W).flatten sz)) (F0 m 154 ls [.int (nI v8)]) := by
    intro ls v8 ev8  hl
    have hm3 : v8 ≤ 3 := by rw [ev8]; split <;> omega
    refine lv_istore (lv' := [(7, .int (nI v8)), (6, .int (v 3 ((y / 16) % 8))), (5, .int (v 0 ((y / 16) % 8))), (4, .int (nI ((y / 16) % 8))), (0, .ref x)]) hx hb dL_act_154 hl (by decide) rfl (fun ls hl => ?_)
    refine lv_aload_n hx hb dL_act_156 rfl (lv_at hl 4 rfl) ?_
    refine lv_iconst (v := 0) hx hb dL_act_157 (by decide) ?_
    refine lv_iload hx hb dL_act_158 (lv_at hl 3 rfl) ?_
    refine lv_iload hx hb dL_act_160 (lv_at hl 0 rfl) ?_
    have hP := wl_Po (bs' := [([(x, .inr (4, [.ref (sa 0), .ref (ja 0), .ref (ta 0), .ref h, .ref q]))] : va_W), ([(h, .inr (0, [.ref g, .int (nI z)]))] : va_W), ([(g, .inl (cy 3, 6, (.inr (.inr (.inr (.inr (q_rf L)))))))] : va_W), plW cy L, stW cy sa v, joW cy ja w]) [0, 1, 2, 3, 5, 4] 6 rfl (by decide) rfl hP
    have hD := wl_Do (bs' := [([(x, .inr (4, [.ref (sa 0), .ref (ja 0), .ref (ta 0), .ref h, .ref q]))] : va_W), ([(h, .inr (0, [.ref g, .int (nI z)]))] : va_W), ([(g, .inl (cy 3, 6, (.inr (.inr (.inr (.inr (q_rf L)))))))] : va_W), plW cy L, stW cy sa v, joW cy ja w]) [0, 1, 2, 3, 5, 4] 6 rfl (by decide) rfl hD
    refine wl_iSW (As := [.ref x, .int 0, .int (nI ((y / 16) % 8)), .int (nI v8)]) (rest := []) (bsC := [([(x, .inr (4, [.ref (sa 0), .ref (ja 0), .ref (ta 0), .ref h, .ref q]))] : va_W), ([(h, .inr (0, [.ref g, .int (nI z)]))] : va_W), ([(g, .inl (cy 3, 6, (.inr (.inr (.inr (.inr (q_rf L)))))))] : va_W), plW cy L, stW cy sa v]) (bsR := [joW cy ja w]) ⟨hx, hb, hml, hown, hts⟩ (m_c_mode l D cy x sa ja ta h q g L z v ((y / 16) % 8) v8 s.heap.size hz hL (by omega) hm3) (vx_cwSW 4 hts gL_act_L_call rfl rfl rfl (by decide +kernel) ⟨Nat.le_of_ble_eq_true rfl, Nat.le_of_ble_eq_true rfl⟩) wl_T9_b (fun U hU hW => wl_T9_w hU hW hS (wl_freeB (bsC := [([(x, .inr (4, [.ref (sa 0), .ref (ja 0), .ref (ta 0), .ref h, .ref q]))] : va_W), ([(h, .inr (0, [.ref g, .int (nI z)]))] : va_W), ([(g, .inl (cy 3, 6, (.inr (.inr (.inr (.inr (q_rf L)))))))] : va_W), plW cy L, stW cy sa v]) (bsR := [joW cy ja w]) hD hS hA) hX) hK hP hD hS hA rfl hl.1 rfl (Nat.le_of_ble_eq_true rfl) dL_act_162 ⟨Nat.le_of_ble_eq_true rfl, Nat.le_of_ble_eq_true rfl⟩ (fun r10 bs11 H locs e12 _ _ hP hD hS => ?_)
    obtain ⟨L113, z114, er10, e12, f15, f16, f17⟩ := e12
    have e12 : bs11 = [([(x, .inr (4, [.ref (sa 0), .ref (ja 0), .ref (ta 0), .ref h, .ref q]))] : va_W), ([(h, .inr (0, [.ref g, .int (nI z114)]))] : va_W), ([(g, .inl (cy 3, 6, (.inr (.inr (.inr (.inr (q_rf L113)))))))] : va_W), plW cy L113, stW cy sa (su v 0 ((y / 16) % 8) (nI v8))] := e12
    subst e12
    have er10 : r10 = v 0 ((y / 16) % 8) := er10
    subst er10
    refine W.widen (k := 8) (n := 176) (Nat.le_refl _) (Nat.le_refl _) ?_
    have hP : va_P D vwCl ([([(x, .inr (4, [.ref (sa 0), .ref (ja 0), .ref (ta 0), .ref h, .ref q]))] : va_W), ([(h, .inr (0, [.ref g, .int (nI z114)]))] : va_W), ([(g, .inl (cy 3, 6, (.inr (.inr (.inr (.inr (q_rf L113)))))))] : va_W), plW cy L113, stW cy sa (su v 0 ((y / 16) % 8) (nI v8)), joW cy ja w] : List va_W).flatten H := hP
    have hD : va_D A ([([(x, .inr (4, [.ref (sa 0), .ref (ja 0), .ref (ta 0), .ref h, .ref q]))] : va_W), ([(h, .inr (0, [.ref g, .int (nI z114)]))] : va_W), ([(g, .inl (cy 3, 6, (.inr (.inr (.inr (.inr (q_rf L113)))))))] : va_W), plW cy L113, stW cy sa (su v 0 ((y / 16) % 8) (nI v8)), joW cy ja w] : List va_W).flatten := hD
    have hP := wl_Po (bs' := [([(x, .inr (4, [.ref (sa 0), .ref (ja 0), .ref (ta 0), .ref h, .ref q]))] : va_W), ([(h, .inr (0, [.ref g, .int (nI z114)]))] : va_W), ([(g, .inl (cy 3, 6, (.inr (.inr (.inr (.inr (q_rf L113)))))))] : va_W), plW cy L113, joW cy ja w, stW cy sa (su v 0 ((y / 16) % 8) (nI v8))]) [0, 1, 2, 3, 5, 4] 6 rfl (by decide) rfl hP
    have hD := wl_Do (bs' := [([(x, .inr (4, [.ref (sa 0), .ref (ja 0), .ref (ta 0), .ref h, .ref q]))] : va_W), ([(h, .inr (0, [.ref g, .int (nI z114)]))] : va_W), ([(g, .inl (cy 3, 6, (.inr (.inr (.inr (.inr (q_rf L113)))))))] : va_W), plW cy L113, joW cy ja w, stW cy sa (su v 0 ((y / 16) % 8) (nI v8))]) [0, 1, 2, 3, 5, 4] 6 rfl (by decide) rfl hD
    refine lv_iload hx hb dL_act_165 (lv_at hl 2 rfl) ?_
    refine lv_icmp_ne (tgt := 198) hx hb dL_act_167 (by decide) (fun c18 => absurd rfl c18) (fun c18 => ?_)
    refine lv_aload_n hx hb dL_act_170 rfl (lv_at hl 4 rfl) ?_
    refine lv_iload hx hb dL_act_171 (lv_at hl 3 rfl) ?_
    refine lv_iconst (v := 0) hx hb dL_act_173 (by decide) ?_
    refine wl_pV (As := [.int (nI ((y / 16) % 8)), .int 0]) (rest := []) ⟨hx, hb, hml, hown, hts⟩ (m_X4_lof0 l D cy x sa ja ta h q (su v 0 ((y / 16) % 8) (nI v8)) ((y / 16) % 8) (by omega)) (cwV 2 hts gL_act_X4_lampOf rfl rfl rfl (by decide +kernel) ⟨Nat.le_of_ble_eq_true rfl, Nat.le_of_ble_eq_true rfl⟩) hK hP [0, 5] rfl rfl rfl rfl rfl rfl hl.1 rfl (Nat.le_of_ble_eq_true rfl) dL_act_174 ⟨Nat.le_of_ble_eq_true rfl, Nat.le_of_ble_eq_true rfl⟩ (fun r19 er19 => ?_)
    have er19 : r19 = (su v 0 ((y / 16) % 8) (nI v8)) 0 ((y / 16) % 8) := er19
    subst er19
    refine lv_iload hx hb dL_act_177 (lv_at hl 0 rfl) ?_
    refine lv_icmp_ne (tgt := 198) hx hb dL_act_179 (by decide) (fun c20 => absurd p_sus c20) (fun c20 => ?_)
    refine lv_aload_n hx hb dL_act_182 rfl (lv_at hl 4 rfl) ?_
    refine lv_iload hx hb dL_act_183 (lv_at hl 3 rfl) ?_
    refine lv_iconst (v := 3) hx hb dL_act_185 (by decide) ?_
    refine wl_pV (As := [.int (nI ((y / 16) % 8)), .int 3]) (rest := []) ⟨hx, hb, hml, hown, hts⟩ (m_X4_lof3 l D cy x sa ja ta h q (su v 0 ((y / 16) % 8) (nI v8)) ((y / 16) % 8) (by omega)) (cwV 2 hts gL_act_X4_lampOf rfl rfl rfl (by decide +kernel) ⟨Nat.le_of_ble_eq_true rfl, Nat.le_of_ble_eq_true rfl⟩) hK hP [0, 5] rfl rfl rfl rfl rfl rfl hl.1 rfl (Nat.le_of_ble_eq_true rfl) dL_act_186 ⟨Nat.le_of_ble_eq_true rfl, Nat.le_of_ble_eq_true rfl⟩ (fun r21 er21 => ?_)
    have er21 : r21 = (su v 0 ((y / 16) % 8) (nI v8)) 3 ((y / 16) % 8) := er21
    subst er21
    refine lv_iload hx hb dL_act_189 (lv_at hl 1 rfl) ?_
    refine lv_icmp_ne (tgt := 198) hx hb dL_act_191 (by decide) (fun c22 => absurd rfl c22) (fun c22 => ?_)
    refine lv_iconst (v := 1) hx hb dL_act_194 (by decide) ?_
    refine lv_goto (tgt := 200) hx hb dL_act_195 (by decide) ?_
    exact wl_Ri (bs := [([(x, .inr (4, [.ref (sa 0), .ref (ja 0), .ref (ta 0), .ref h, .ref q]))] : va_W), ([(h, .inr (0, [.ref g, .int (nI z114)]))] : va_W), ([(g, .inl (cy 3, 6, (.inr (.inr (.inr (.inr (q_rf L113)))))))] : va_W), plW cy L113, joW cy ja w, stW cy sa (su v 0 ((y / 16) % 8) (nI v8))]) (r := 1) hx hb hr hlocks hAe hP hD hS (by subst ev8; exact ⟨L113, z114, _, _, n, T, rfl, rfl, f15, f16, f17, p_ok_mode hok, by omega⟩) dL_act_200
  refine wl_if_ne (tgt := 153) hx hb (((y / 16) / 8) % 3) dL_act_141 (by decide) (by omega) (fun c7 => ?_) (fun c7 => ?_)
  · refine lv_iconst (v := 0) hx hb dL_act_153 (by decide) ?_
    exact K9 _ 0 (by rw [if_neg c7]) (lv_sub hl [0, 1, 2, 5] rfl)
  · refine lv_iload_n hx hb dL_act_144 rfl (lv_at hl 3 rfl) ?_
    refine lv_bipush (v := 24) hx hb dL_act_145 (by decide) ?_
    refine lv_idiv hx hb dL_act_147 (by decide) ?_
    refine wl_top (y := nI ((y / 16) / 24)) (pk_div (a := y / 16) (d := 24) (by omega) (by omega) (by omega)) ?_
    refine lv_iconst (v := 4) hx hb dL_act_148 (by decide) ?_
    refine lv_irem hx hb dL_act_149 (by decide) ?_
    refine wl_top (y := nI (((y / 16) / 24) % 4)) (pk_rem (a := (y / 16) / 24) (d := 4) (by omega) (by omega) (by omega)) ?_
    refine lv_goto (tgt := 154) hx hb dL_act_150 (by decide) ?_
    exact K9 _ (((y / 16) / 24) % 4) (by rw [if_pos c7]) (lv_sub hl [0, 1, 2, 5] rfl)
set_option maxHeartbeats 4000000 in
set_option maxRecDepth 100000 in
theorem m_L_act8 (l : Launch) (D : va_G) (cy : Nat → ClassId) (x : Nat) (sa ja ta : Nat → Nat) (h q : Nat) (g : Nat) (L : HsL) (z : Nat) (w : Nat → Nat → Int32) (v : Nat → Nat → Int32) (n T y : Nat) (sz : Nat) (hz : z ≤ L.length) (hL : L.length ≤ 6) (hok : p_ok v n T) (hy : y < 2 ^ 31) (hc0 : 13 ≤ y % 16) (hc1 : y % 16 < 15) : Met l yL_act wsL_act ({ frames := 8, cells := 8, slots := 176, locals := 300 } : Room) (wl_ic D cy (wl_T9 (va_A ([([(x, .inr (4, [.ref (sa 0), .ref (ja 0), .ref (ta 0), .ref h, .ref q]))] : va_W), ([(h, .inr (0, [.ref g, .int (nI z)]))] : va_W), ([(g, .inl (cy 3, 6, (.inr (.inr (.inr (.inr (q_rf L)))))))] : va_W), plW cy L, joW cy ja w, stW cy sa v] : List va_W).flatten sz)) [([(x, .inr (4, [.ref (sa 0), .ref (ja 0), .ref (ta 0), .ref h, .ref q]))] : va_W), ([(h, .inr (0, [.ref g, .int (nI z)]))] : va_W), ([(g, .inl (cy 3, 6, (.inr (.inr (.inr (.inr (q_rf L)))))))] : va_W), plW cy L, joW cy ja w, stW cy sa v] sz [.ref x, .int (nI y)]) (va_Qi (fun (r : Int32) (bs : List va_W) => ∃ (L1 : HsL) (z1 : Nat) (v1 : Nat → Nat → Int32) (w1 : Nat → Nat → Int32) (n1 : Nat) (T1 : Nat), r = 1 ∧ bs = [([(x, .inr (4, [.ref (sa 0), .ref (ja 0), .ref (ta 0), .ref h, .ref q]))] : va_W), ([(h, .inr (0, [.ref g, .int (nI z1)]))] : va_W), ([(g, .inl (cy 3, 6, (.inr (.inr (.inr (.inr (q_rf L1)))))))] : va_W), plW cy L1, joW cy ja w1, stW cy sa v1] ∧ z1 ≤ L1.length ∧ L1.length ≤ 6 ∧ (L1.take z1).map Prod.snd = q_push ((L.take z).map Prod.snd) v ∧ p_ok v1 n1 T1 ∧ T1 ≤ T + 8) (wl_ib D [([(x, .inr (4, [.ref (sa 0), .ref (ja 0), .ref (ta 0), .ref h, .ref q]))] : va_W), ([(h, .inr (0, [.ref g, .int (nI z)]))] : va_W), ([(g, .inl (cy 3, 6, (.inr (.inr (.inr (.inr (q_rf L)))))))] : va_W), plW cy L, joW cy ja w, stW cy sa v] sz) (va_A ([([(x, .inr (4, [.ref (sa 0), .ref (ja 0), .ref (ta 0), .ref h, .ref q]))] : va_W), ([(h, .inr (0, [.ref g, .int (nI z)]))] : va_W), ([(g, .inl (cy 3, 6, (.inr (.inr (.inr (.inr (q_rf L)))))))] : va_W), plW cy L, joW cy ja w, stW cy sa v] : List va_W).flatten sz)) 8 176 (va_A ([([(x, .inr (4, [.ref (sa 0), .ref (ja 0), .ref (ta 0), .ref h, .ref q]))] : va_W), ([(h, .inr (0, [.ref g, .int (nI z)]))] : va_W), ([(g, .inl (cy 3, 6, (.inr (.inr (.inr (.inr (q_rf L)))))))] : va_W), plW cy L, joW cy ja w, stW cy sa v] : List va_W).flatten sz) := by
  refine wl_ofI (cc := cL_act) (maxL := 8) (ret := (some .int)) (by decide) rfl (Nat.le_of_ble_eq_true rfl) ?_
  intro p e s m below meth c ls A hx hb hr hts hown hlocks hml hnm hsz hAe hP hK hD hX hA hS hl
  rw [hAe] at hX
  have hl : lv_has ls 8 [(0, .ref x), (1, .int (nI y))] := hl
  have hn := hok.2.1
  have hn2 := hok.1
  refine lv_iload_n hx hb dL_act_0 rfl (lv_at hl 1 rfl) ?_
  refine lv_bipush (v := 16) hx hb dL_act_1 (by decide) ?_
  refine lv_irem hx hb dL_act_3 (by decide) ?_
  refine wl_top (y := nI (y % 16)) (pk_rem (a := y) (d := 16) (by omega) (by omega) (by omega)) ?_
  refine lv_istore_n (lv' := [(2, .int (nI (y % 16))), (0, .ref x), (1, .int (nI y))]) hx hb dL_act_4 rfl hl (by decide) rfl (fun ls hl => ?_)
  refine lv_iload_n hx hb dL_act_5 rfl (lv_at hl 2 rfl) ?_
  refine lv_bipush (v := 16) hx hb dL_act_6 (by decide) ?_
  refine lv_idiv hx hb dL_act_8 (by decide) ?_
  refine wl_top (y := nI (y / 16)) (pk_div (a := y) (d := 16) (by omega) (by omega) (by omega)) ?_
  refine lv_istore_n (lv' := [(3, .int (nI (y / 16))), (2, .int (nI (y % 16))), (0, .ref x), (1, .int (nI y))]) hx hb dL_act_9 rfl hl (by decide) rfl (fun ls hl => ?_)
  refine lv_iload_n hx hb dL_act_10 rfl (lv_at hl 0 rfl) ?_
  refine lv_bipush (v := 8) hx hb dL_act_11 (by decide) ?_
  refine lv_irem hx hb dL_act_13 (by decide) ?_
  refine wl_top (y := nI ((y / 16) % 8)) (pk_rem (a := y / 16) (d := 8) (by omega) (by omega) (by omega)) ?_
  refine lv_istore (lv' := [(4, .int (nI ((y / 16) % 8))), (3, .int (nI (y / 16))), (2, .int (nI (y % 16))), (0, .ref x), (1, .int (nI y))]) hx hb dL_act_14 hl (by decide) rfl (fun ls hl => ?_)
  refine lv_iload_n hx hb dL_act_16 rfl (lv_at hl 2 rfl) ?_
  refine lv_bipush (v := 8) hx hb dL_act_17 (by decide) ?_
  refine wl_icmp_ge (tgt := 39) hx hb (y % 16) 8 dL_act_19 (by decide) (by omega) (by omega) (fun c1 => ?_) (fun c1 => absurd c1 (by omega))
  refine lv_iload_n hx hb dL_act_39 rfl (lv_at hl 2 rfl) ?_
  refine lv_bipush (v := 10) hx hb dL_act_40 (by decide) ?_
  refine wl_icmp_ge (tgt := 50) hx hb (y % 16) 10 dL_act_42 (by decide) (by omega) (by omega) (fun c2 => ?_) (fun c2 => absurd c2 (by omega))
  refine lv_iload_n hx hb dL_act_50 rfl (lv_at hl 2 rfl) ?_
  refine lv_bipush (v := 10) hx hb dL_act_51 (by decide) ?_
  refine wl_icmp_ne (tgt := 111) hx hb (y % 16) 10 dL_act_53 (by decide) (by omega) (by omega) (fun c3 => ?_) (fun c3 => absurd c3 (by omega))
  refine lv_iload_n hx hb dL_act_111 rfl (lv_at hl 2 rfl) ?_
  refine lv_bipush (v := 13) hx hb dL_act_112 (by decide) ?_
  refine wl_icmp_ge (tgt := 201) hx hb (y % 16) 13 dL_act_114 (by decide) (by omega) (by omega) (fun c4 => ?_) (fun c4 => absurd c4 (by omega))
  refine lv_iload_n hx hb dL_act_201 rfl (lv_at hl 2 rfl) ?_
  refine lv_bipush (v := 15) hx hb dL_act_202 (by decide) ?_
  refine wl_icmp_ge (tgt := 259) hx hb (y % 16) 15 dL_act_204 (by decide) (by omega) (by omega) (fun c5 => absurd c5 (by omega)) (fun c5 => ?_)
  refine lv_aload_n hx hb dL_act_207 rfl (lv_at hl 3 rfl) ?_
  refine lv_iload hx hb dL_act_208 (lv_at hl 0 rfl) ?_
  refine lv_iconst (v := 1) hx hb dL_act_210 (by decide) ?_
  refine wl_pV (As := [.int (nI ((y / 16) % 8)), .int 1]) (rest := []) ⟨hx, hb, hml, hown, hts⟩ (m_X4_lof1 l D cy x sa ja ta h q v ((y / 16) % 8) (by omega)) (cwV 2 hts gL_act_X4_lampOf rfl rfl rfl (by decide +kernel) ⟨Nat.le_of_ble_eq_true rfl, Nat.le_of_ble_eq_true rfl⟩) hK hP [0, 5] rfl rfl rfl rfl rfl rfl hl.1 rfl (Nat.le_of_ble_eq_true rfl) dL_act_211 ⟨Nat.le_of_ble_eq_true rfl, Nat.le_of_ble_eq_true rfl⟩ (fun r6 er6 => ?_)
  have er6 : r6 = v 1 ((y / 16) % 8) := er6
  subst er6
  refine lv_istore (lv' := [(5, .int (v 1 ((y / 16) % 8))), (4, .int (nI ((y / 16) % 8))), (3, .int (nI (y / 16))), (2, .int (nI (y % 16))), (0, .ref x), (1, .int (nI y))]) hx hb dL_act_214 hl (by decide) rfl (fun ls hl => ?_)
  refine lv_aload_n hx hb dL_act_216 rfl (lv_at hl 4 rfl) ?_
  refine lv_iconst (v := 1) hx hb dL_act_217 (by decide) ?_
  refine lv_iload hx hb dL_act_218 (lv_at hl 1 rfl) ?_
  refine lv_iload_n hx hb dL_act_220 rfl (lv_at hl 2 rfl) ?_
  refine lv_bipush (v := 8) hx hb dL_act_221 (by decide) ?_
  refine lv_idiv hx hb dL_act_223 (by decide) ?_
  refine wl_top (y := nI ((y / 16) / 8)) (pk_div (a := y / 16) (d := 8) (by omega) (by omega) (by omega)) ?_
  refine lv_bipush (v := 7) hx hb dL_act_224 (by decide) ?_
  refine lv_irem hx hb dL_act_226 (by decide) ?_
  refine wl_top (y := nI (((y / 16) / 8) % 7)) (pk_rem (a := (y / 16) / 8) (d := 7) (by omega) (by omega) (by omega)) ?_
  have hP := wl_Po (bs' := [([(x, .inr (4, [.ref (sa 0), .ref (ja 0), .ref (ta 0), .ref h, .ref q]))] : va_W), ([(h, .inr (0, [.ref g, .int (nI z)]))] : va_W), ([(g, .inl (cy 3, 6, (.inr (.inr (.inr (.inr (q_rf L)))))))] : va_W), plW cy L, stW cy sa v, joW cy ja w]) [0, 1, 2, 3, 5, 4] 6 rfl (by decide) rfl hP
  have hD := wl_Do (bs' := [([(x, .inr (4, [.ref (sa 0), .ref (ja 0), .ref (ta 0), .ref h, .ref q]))] : va_W), ([(h, .inr (0, [.ref g, .int (nI z)]))] : va_W), ([(g, .inl (cy 3, 6, (.inr (.inr (.inr (.inr (q_rf L)))))))] : va_W), plW cy L, stW cy sa v, joW cy ja w]) [0, 1, 2, 3, 5, 4] 6 rfl (by decide) rfl hD
  refine wl_iSW (As := [.ref x, .int 1, .int (nI ((y / 16) % 8)), .int (nI (((y / 16) / 8) % 7))]) (rest := []) (bsC := [([(x, .inr (4, [.ref (sa 0), .ref (ja 0), .ref (ta 0), .ref h, .ref q]))] : va_W), ([(h, .inr (0, [.ref g, .int (nI z)]))] : va_W), ([(g, .inl (cy 3, 6, (.inr (.inr (.inr (.inr (q_rf L)))))))] : va_W), plW cy L, stW cy sa v]) (bsR := [joW cy ja w]) ⟨hx, hb, hml, hown, hts⟩ (m_c_loss l D cy x sa ja ta h q g L z v ((y / 16) % 8) (((y / 16) / 8) % 7) s.heap.size hz hL (by omega) (by omega)) (vx_cwSW 4 hts gL_act_L_call rfl rfl rfl (by decide +kernel) ⟨Nat.le_of_ble_eq_true rfl, Nat.le_of_ble_eq_true rfl⟩) wl_T9_b (fun U hU hW => wl_T9_w hU hW hS (wl_freeB (bsC := [([(x, .inr (4, [.ref (sa 0), .ref (ja 0), .ref (ta 0), .ref h, .ref q]))] : va_W), ([(h, .inr (0, [.ref g, .int (nI z)]))] : va_W), ([(g, .inl (cy 3, 6, (.inr (.inr (.inr (.inr (q_rf L)))))))] : va_W), plW cy L, stW cy sa v]) (bsR := [joW cy ja w]) hD hS hA) hX) hK hP hD hS hA rfl hl.1 rfl (Nat.le_of_ble_eq_true rfl) dL_act_227 ⟨Nat.le_of_ble_eq_true rfl, Nat.le_of_ble_eq_true rfl⟩ (fun r7 bs8 H locs e9 _ _ hP hD hS => ?_)
  obtain ⟨L110, z111, er7, e9, f12, f13, f14⟩ := e9
  have e9 : bs8 = [([(x, .inr (4, [.ref (sa 0), .ref (ja 0), .ref (ta 0), .ref h, .ref q]))] : va_W), ([(h, .inr (0, [.ref g, .int (nI z111)]))] : va_W), ([(g, .inl (cy 3, 6, (.inr (.inr (.inr (.inr (q_rf L110)))))))] : va_W), plW cy L110, stW cy sa (su v 1 ((y / 16) % 8) (nI (((y / 16) / 8) % 7)))] := e9
  subst e9
  have er7 : r7 = v 1 ((y / 16) % 8) := er7
  subst er7
  refine W.widen (k := 8) (n := 176) (Nat.le_refl _) (Nat.le_refl _) ?_
  have hP : va_P D vwCl ([([(x, .inr (4, [.ref (sa 0), .ref (ja 0), .ref (ta 0), .ref h, .ref q]))] : va_W), ([(h, .inr (0, [.ref g, .int (nI z111)]))] : va_W), ([(g, .inl (cy 3, 6, (.inr (.inr (.inr (.inr (q_rf L110)))))))] : va_W), plW cy L110, stW cy sa (su v 1 ((y / 16) % 8) (nI (((y / 16) / 8) % 7))), joW cy ja w] : List va_W).flatten H := hP
  have hD : va_D A ([([(x, .inr (4, [.ref (sa 0), .ref (ja 0), .ref (ta 0), .ref h, .ref q]))] : va_W), ([(h, .inr (0, [.ref g, .int (nI z111)]))] : va_W), ([(g, .inl (cy 3, 6, (.inr (.inr (.inr (.inr (q_rf L110)))))))] : va_W), plW cy L110, stW cy sa (su v 1 ((y / 16) % 8) (nI (((y / 16) / 8) % 7))), joW cy ja w] : List va_W).flatten := hD
  have hP := wl_Po (bs' := [([(x, .inr (4, [.ref (sa 0), .ref (ja 0), .ref (ta 0), .ref h, .ref q]))] : va_W), ([(h, .inr (0, [.ref g, .int (nI z111)]))] : va_W), ([(g, .inl (cy 3, 6, (.inr (.inr (.inr (.inr (q_rf L110)))))))] : va_W), plW cy L110, joW cy ja w, stW cy sa (su v 1 ((y / 16) % 8) (nI (((y / 16) / 8) % 7)))]) [0, 1, 2, 3, 5, 4] 6 rfl (by decide) rfl hP
  have hD := wl_Do (bs' := [([(x, .inr (4, [.ref (sa 0), .ref (ja 0), .ref (ta 0), .ref h, .ref q]))] : va_W), ([(h, .inr (0, [.ref g, .int (nI z111)]))] : va_W), ([(g, .inl (cy 3, 6, (.inr (.inr (.inr (.inr (q_rf L110)))))))] : va_W), plW cy L110, joW cy ja w, stW cy sa (su v 1 ((y / 16) % 8) (nI (((y / 16) / 8) % 7)))]) [0, 1, 2, 3, 5, 4] 6 rfl (by decide) rfl hD
  refine lv_iload hx hb dL_act_230 (lv_at hl 0 rfl) ?_
  refine lv_icmp_ne (tgt := 256) hx hb dL_act_232 (by decide) (fun c15 => absurd rfl c15) (fun c15 => ?_)
  refine lv_aload_n hx hb dL_act_235 rfl (lv_at hl 4 rfl) ?_
  refine lv_iload hx hb dL_act_236 (lv_at hl 1 rfl) ?_
  refine lv_iconst (v := 1) hx hb dL_act_238 (by decide) ?_
  refine wl_pV (As := [.int (nI ((y / 16) % 8)), .int 1]) (rest := []) ⟨hx, hb, hml, hown, hts⟩ (m_X4_lof1 l D cy x sa ja ta h q (su v 1 ((y / 16) % 8) (nI (((y / 16) / 8) % 7))) ((y / 16) % 8) (by omega)) (cwV 2 hts gL_act_X4_lampOf rfl rfl rfl (by decide +kernel) ⟨Nat.le_of_ble_eq_true rfl, Nat.le_of_ble_eq_true rfl⟩) hK hP [0, 5] rfl rfl rfl rfl rfl rfl hl.1 rfl (Nat.le_of_ble_eq_true rfl) dL_act_239 ⟨Nat.le_of_ble_eq_true rfl, Nat.le_of_ble_eq_true rfl⟩ (fun r16 er16 => ?_)
  have er16 : r16 = (su v 1 ((y / 16) % 8) (nI (((y / 16) / 8) % 7))) 1 ((y / 16) % 8) := er16
  subst er16
  refine lv_iload_n hx hb dL_act_242 rfl (lv_at hl 2 rfl) ?_
  refine lv_bipush (v := 8) hx hb dL_act_243 (by decide) ?_
  refine lv_idiv hx hb dL_act_245 (by decide) ?_
  refine wl_top (y := nI ((y / 16) / 8)) (pk_div (a := y / 16) (d := 8) (by omega) (by omega) (by omega)) ?_
  refine lv_bipush (v := 7) hx hb dL_act_246 (by decide) ?_
  refine lv_irem hx hb dL_act_248 (by decide) ?_
  refine wl_top (y := nI (((y / 16) / 8) % 7)) (pk_rem (a := (y / 16) / 8) (d := 7) (by omega) (by omega) (by omega)) ?_
  refine lv_icmp_ne (tgt := 256) hx hb dL_act_249 (by decide) (fun c17 => absurd p_sus c17) (fun c17 => ?_)
  refine lv_iconst (v := 1) hx hb dL_act_252 (by decide) ?_
  refine lv_goto (tgt := 258) hx hb dL_act_253 (by decide) ?_
  exact wl_Ri (bs := [([(x, .inr (4, [.ref (sa 0), .ref (ja 0), .ref (ta 0), .ref h, .ref q]))] : va_W), ([(h, .inr (0, [.ref g, .int (nI z111)]))] : va_W), ([(g, .inl (cy 3, 6, (.inr (.inr (.inr (.inr (q_rf L110)))))))] : va_W), plW cy L110, joW cy ja w, stW cy sa (su v 1 ((y / 16) % 8) (nI (((y / 16) / 8) % 7)))]) (r := 1) hx hb hr hlocks hAe hP hD hS (by exact ⟨L110, z111, _, _, n, T, rfl, rfl, f12, f13, f14, p_ok_loss hok, by omega⟩) dL_act_258
set_option maxHeartbeats 4000000 in
set_option maxRecDepth 100000 in
theorem m_L_act9 (l : Launch) (D : va_G) (cy : Nat → ClassId) (x : Nat) (sa ja ta : Nat → Nat) (h q : Nat) (g : Nat) (L : HsL) (z : Nat) (w : Nat → Nat → Int32) (v : Nat → Nat → Int32) (n T y : Nat) (sz : Nat) (hz : z ≤ L.length) (hL : L.length ≤ 6) (hok : p_ok v n T) (hy : y < 2 ^ 31) (hc0 : y % 16 = 15) : Met l yL_act wsL_act ({ frames := 8, cells := 8, slots := 176, locals := 300 } : Room) (wl_ic D cy (wl_T9 (va_A ([([(x, .inr (4, [.ref (sa 0), .ref (ja 0), .ref (ta 0), .ref h, .ref q]))] : va_W), ([(h, .inr (0, [.ref g, .int (nI z)]))] : va_W), ([(g, .inl (cy 3, 6, (.inr (.inr (.inr (.inr (q_rf L)))))))] : va_W), plW cy L, joW cy ja w, stW cy sa v] : List va_W).flatten sz)) [([(x, .inr (4, [.ref (sa 0), .ref (ja 0), .ref (ta 0), .ref h, .ref q]))] : va_W), ([(h, .inr (0, [.ref g, .int (nI z)]))] : va_W), ([(g, .inl (cy 3, 6, (.inr (.inr (.inr (.inr (q_rf L)))))))] : va_W), plW cy L, joW cy ja w, stW cy sa v] sz [.ref x, .int (nI y)]) (va_Qi (fun (r : Int32) (bs : List va_W) => ∃ (L1 : HsL) (z1 : Nat) (v1 : Nat → Nat → Int32) (w1 : Nat → Nat → Int32) (n1 : Nat) (T1 : Nat), r = 1 ∧ bs = [([(x, .inr (4, [.ref (sa 0), .ref (ja 0), .ref (ta 0), .ref h, .ref q]))] : va_W), ([(h, .inr (0, [.ref g, .int (nI z1)]))] : va_W), ([(g, .inl (cy 3, 6, (.inr (.inr (.inr (.inr (q_rf L1)))))))] : va_W), plW cy L1, joW cy ja w1, stW cy sa v1] ∧ z1 ≤ L1.length ∧ L1.length ≤ 6 ∧ (L1.take z1).map Prod.snd = q_push ((L.take z).map Prod.snd) v ∧ p_ok v1 n1 T1 ∧ T1 ≤ T + 8) (wl_ib D [([(x, .inr (4, [.ref (sa 0), .ref (ja 0), .ref (ta 0), .ref h, .ref q]))] : va_W), ([(h, .inr (0, [.ref g, .int (nI z)]))] : va_W), ([(g, .inl (cy 3, 6, (.inr (.inr (.inr (.inr (q_rf L)))))))] : va_W), plW cy L, joW cy ja w, stW cy sa v] sz) (va_A ([([(x, .inr (4, [.ref (sa 0), .ref (ja 0), .ref (ta 0), .ref h, .ref q]))] : va_W), ([(h, .inr (0, [.ref g, .int (nI z)]))] : va_W), ([(g, .inl (cy 3, 6, (.inr (.inr (.inr (.inr (q_rf L)))))))] : va_W), plW cy L, joW cy ja w, stW cy sa v] : List va_W).flatten sz)) 8 176 (va_A ([([(x, .inr (4, [.ref (sa 0), .ref (ja 0), .ref (ta 0), .ref h, .ref q]))] : va_W), ([(h, .inr (0, [.ref g, .int (nI z)]))] : va_W), ([(g, .inl (cy 3, 6, (.inr (.inr (.inr (.inr (q_rf L)))))))] : va_W), plW cy L, joW cy ja w, stW cy sa v] : List va_W).flatten sz) := by
  refine wl_ofI (cc := cL_act) (maxL := 8) (ret := (some .int)) (by decide) rfl (Nat.le_of_ble_eq_true rfl) ?_
  intro p e s m below meth c ls A hx hb hr hts hown hlocks hml hnm hsz hAe hP hK hD hX hA hS hl
  rw [hAe] at hX
  have hl : lv_has ls 8 [(0, .ref x), (1, .int (nI y))] := hl
  have hn := hok.2.1
  have hn2 := hok.1
  refine lv_iload_n hx hb dL_act_0 rfl (lv_at hl 1 rfl) ?_
  refine lv_bipush (v := 16) hx hb dL_act_1 (by decide) ?_
  refine lv_irem hx hb dL_act_3 (by decide) ?_
  refine wl_top (y := nI (y % 16)) (pk_rem (a := y) (d := 16) (by omega) (by omega) (by omega)) ?_
  refine lv_istore_n (lv' := [(2, .int (nI (y % 16))), (0, .ref x), (1, .int (nI y))]) hx hb dL_act_4 rfl hl (by decide) rfl (fun ls hl => ?_)
  refine lv_iload_n hx hb dL_act_5 rfl (lv_at hl 2 rfl) ?_
  refine lv_bipush (v := 16) hx hb dL_act_6 (by decide) ?_
  refine lv_idiv hx hb dL_act_8 (by decide) ?_
  refine wl_top (y := nI (y / 16)) (pk_div (a := y) (d := 16) (by omega) (by omega) (by omega)) ?_
  refine lv_istore_n (lv' := [(3, .int (nI (y / 16))), (2, .int (nI (y % 16))), (0, .ref x), (1, .int (nI y))]) hx hb dL_act_9 rfl hl (by decide) rfl (fun ls hl => ?_)
  refine lv_iload_n hx hb dL_act_10 rfl (lv_at hl 0 rfl) ?_
  refine lv_bipush (v := 8) hx hb dL_act_11 (by decide) ?_
  refine lv_irem hx hb dL_act_13 (by decide) ?_
  refine wl_top (y := nI ((y / 16) % 8)) (pk_rem (a := y / 16) (d := 8) (by omega) (by omega) (by omega)) ?_
  refine lv_istore (lv' := [(4, .int (nI ((y / 16) % 8))), (3, .int (nI (y / 16))), (2, .int (nI (y % 16))), (0, .ref x), (1, .int (nI y))]) hx hb dL_act_14 hl (by decide) rfl (fun ls hl => ?_)
  refine lv_iload_n hx hb dL_act_16 rfl (lv_at hl 2 rfl) ?_
  refine lv_bipush (v := 8) hx hb dL_act_17 (by decide) ?_
  refine wl_icmp_ge (tgt := 39) hx hb (y % 16) 8 dL_act_19 (by decide) (by omega) (by omega) (fun c1 => ?_) (fun c1 => absurd c1 (by omega))
  refine lv_iload_n hx hb dL_act_39 rfl (lv_at hl 2 rfl) ?_
  refine lv_bipush (v := 10) hx hb dL_act_40 (by decide) ?_
  refine wl_icmp_ge (tgt := 50) hx hb (y % 16) 10 dL_act_42 (by decide) (by omega) (by omega) (fun c2 => ?_) (fun c2 => absurd c2 (by omega))
  refine lv_iload_n hx hb dL_act_50 rfl (lv_at hl 2 rfl) ?_
  refine lv_bipush (v := 10) hx hb dL_act_51 (by decide) ?_
  refine wl_icmp_ne (tgt := 111) hx hb (y % 16) 10 dL_act_53 (by decide) (by omega) (by omega) (fun c3 => ?_) (fun c3 => absurd c3 (by omega))
  refine lv_iload_n hx hb dL_act_111 rfl (lv_at hl 2 rfl) ?_
  refine lv_bipush (v := 13) hx hb dL_act_112 (by decide) ?_
  refine wl_icmp_ge (tgt := 201) hx hb (y % 16) 13 dL_act_114 (by decide) (by omega) (by omega) (fun c4 => ?_) (fun c4 => absurd c4 (by omega))
  refine lv_iload_n hx hb dL_act_201 rfl (lv_at hl 2 rfl) ?_
  refine lv_bipush (v := 15) hx hb dL_act_202 (by decide) ?_
  refine wl_icmp_ge (tgt := 259) hx hb (y % 16) 15 dL_act_204 (by decide) (by omega) (by omega) (fun c5 => ?_) (fun c5 => absurd c5 (by omega))
  refine lv_iload_n hx hb dL_act_259 rfl (lv_at hl 1 rfl) ?_
  refine lv_iconst (v := 3) hx hb dL_act_260 (by decide) ?_
  refine lv_irem hx hb dL_act_261 (by decide) ?_
  refine wl_top (y := nI ((y / 16) % 3)) (pk_rem (a := y / 16) (d := 3) (by omega) (by omega) (by omega)) ?_
  refine lv_istore (lv' := [(5, .int (nI ((y / 16) % 3))), (4, .int (nI ((y / 16) % 8))), (3, .int (nI (y / 16))), (2, .int (nI (y % 16))), (0, .ref x), (1, .int (nI y))]) hx hb dL_act_262 hl (by decide) rfl (fun ls hl => ?_)
  refine lv_aload_n hx hb dL_act_264 rfl (lv_at hl 4 rfl) ?_
  refine lv_iload hx hb dL_act_265 (lv_at hl 0 rfl) ?_
  refine wl_pV (As := [.int (nI ((y / 16) % 3))]) (rest := []) ⟨hx, hb, hml, hown, hts⟩ (m_X4_setting l D cy x sa ja ta h q v ((y / 16) % 3) (by omega)) (cwV 1 hts gL_act_X4_setting rfl rfl rfl (by decide +kernel) ⟨Nat.le_of_ble_eq_true rfl, Nat.le_of_ble_eq_true rfl⟩) hK hP [0, 5] rfl rfl rfl rfl rfl rfl hl.1 rfl (Nat.le_of_ble_eq_true rfl) dL_act_267 ⟨Nat.le_of_ble_eq_true rfl, Nat.le_of_ble_eq_true rfl⟩ (fun r6 er6 => ?_)
  have er6 : r6 = v 5 ((y / 16) % 3) := er6
  subst er6
  refine lv_istore (lv' := [(6, .int (v 5 ((y / 16) % 3))), (5, .int (nI ((y / 16) % 3))), (4, .int (nI ((y / 16) % 8))), (3, .int (nI (y / 16))), (2, .int (nI (y % 16))), (0, .ref x), (1, .int (nI y))]) hx hb dL_act_270 hl (by decide) rfl (fun ls hl => ?_)
  refine lv_iload hx hb dL_act_272 (lv_at hl 1 rfl) ?_
  have K10 : ∀ (ls : Array Slot) (v9 : Nat), v9 = (if ((y / 16) % 3) = 0 then (2 + (((y / 16) / 3) % 11)) else (if ((y / 16) % 3) = 1 then (((y / 16) / 3) % 2) else (((y / 16) / 3) % 361))) → lv_has ls 8 [(6, .int (v 5 ((y / 16) % 3))), (5, .int (nI ((y / 16) % 3))), (0, .ref x)] → W p l e ({ frames := 8, cells := 8, slots := 176, locals := 300 } : Room) s m ([.ref x, .int (nI y)] : List Value).toArray below meth c s.heap [] 0 0 (MQ below (va_Qi (fun (r : Int32) (bs : List va_W) => ∃ (L1 : HsL) (z1 : Nat) (v1 : Nat → Nat → Int32) (w1 : Nat → Nat → Int32) (n1 : Nat) (T1 : Nat), r = 1 ∧ bs = [([(x, .inr (4, [.ref (sa 0), .ref (ja 0), .ref (ta 0), .ref h, .ref q]))] : va_W), ([(h, .inr (0, [.ref g, .int (nI z1)]))] : va_W), ([(g, .inl (cy 3, 6, (.inr (.inr (.inr (.inr (q_rf L1)))))))] : va_W), plW cy L1, joW cy ja w1, stW cy sa v1] ∧ z1 ≤ L1.length ∧ L1.length ≤ 6 ∧ (L1.take z1).map Prod.snd = q_push ((L.take z).map Prod.snd) v ∧ p_ok v1 n1 T1 ∧ T1 ≤ T + 8) (wl_ib D [([(x, .inr (4, [.ref (sa 0), .ref (ja 0), .ref (ta 0), .ref h, .ref q]))] : va_W), ([(h, .inr (0, [.ref g, .int (nI z)]))] : va_W), ([(g, .inl (cy 3, 6, (.inr (.inr (.inr (.inr (q_rf L)))))))] : va_W), plW cy L, joW cy ja w, stW cy sa v] sz) (va_A ([([(x, .inr (4, [.ref (sa 0), .ref (ja 0), .ref (ta 0), .ref h, .ref q]))] : va_W), ([(h, .inr (0, [.ref g, .int (nI z)]))] : va_W), ([(g, .inl (cy 3, 6, (.inr (.inr (.inr (.inr (q_rf L)))))))] : va_W), plW cy L, joW cy ja w, stW cy sa v] : List va_W).flatten sz)) ([.ref x, .int (nI y)] : List Value).toArray s 8 176 (va_A ([([(x, .inr (4, [.ref (sa 0), .ref (ja 0), .ref (ta 0), .ref h, .ref q]))] : va_W), ([(h, .inr (0, [.ref g, .int (nI z)]))] : va_W), ([(g, .inl (cy 3, 6, (.inr (.inr (.inr (.inr (q_rf L)))))))] : va_W), plW cy L, joW cy ja w, stW cy sa v] : List va_W).flatten sz)) (F0 m 309 ls [.int (nI v9)]) := by
    intro ls v9 ev9  hl
    have hm3 : q_lo3 ((y / 16) % 3) ≤ v9 ∧ v9 ≤ q_hi3 ((y / 16) % 3) ∧ v9 ≤ 360 := by rw [ev9]; unfold q_lo3 q_hi3; (repeat' split) <;> omega
    refine lv_istore (lv' := [(7, .int (nI v9)), (6, .int (v 5 ((y / 16) % 3))), (5, .int (nI ((y / 16) % 3))), (0, .ref x)]) hx hb dL_act_309 hl (by decide) rfl (fun ls hl => ?_)
    refine lv_aload_n hx hb dL_act_311 rfl (lv_at hl 3 rfl) ?_
    refine lv_iconst (v := 2) hx hb dL_act_312 (by decide) ?_
    refine lv_iload hx hb dL_act_313 (lv_at hl 2 rfl) ?_
    refine lv_iload hx hb dL_act_315 (lv_at hl 0 rfl) ?_
    have hP := wl_Po (bs' := [([(x, .inr (4, [.ref (sa 0), .ref (ja 0), .ref (ta 0), .ref h, .ref q]))] : va_W), ([(h, .inr (0, [.ref g, .int (nI z)]))] : va_W), ([(g, .inl (cy 3, 6, (.inr (.inr (.inr (.inr (q_rf L)))))))] : va_W), plW cy L, stW cy sa v, joW cy ja w]) [0, 1, 2, 3, 5, 4] 6 rfl (by decide) rfl hP
    have hD := wl_Do (bs' := [([(x, .inr (4, [.ref (sa 0), .ref (ja 0), .ref (ta 0), .ref h, .ref q]))] : va_W), ([(h, .inr (0, [.ref g, .int (nI z)]))] : va_W), ([(g, .inl (cy 3, 6, (.inr (.inr (.inr (.inr (q_rf L)))))))] : va_W), plW cy L, stW cy sa v, joW cy ja w]) [0, 1, 2, 3, 5, 4] 6 rfl (by decide) rfl hD
    refine wl_iSW (As := [.ref x, .int 2, .int (nI ((y / 16) % 3)), .int (nI v9)]) (rest := []) (bsC := [([(x, .inr (4, [.ref (sa 0), .ref (ja 0), .ref (ta 0), .ref h, .ref q]))] : va_W), ([(h, .inr (0, [.ref g, .int (nI z)]))] : va_W), ([(g, .inl (cy 3, 6, (.inr (.inr (.inr (.inr (q_rf L)))))))] : va_W), plW cy L, stW cy sa v]) (bsR := [joW cy ja w]) ⟨hx, hb, hml, hown, hts⟩ (m_c_set l D cy x sa ja ta h q g L z v ((y / 16) % 3) v9 s.heap.size hz hL (by omega) ⟨hm3.1, hm3.2.1⟩) (vx_cwSW 4 hts gL_act_L_call rfl rfl rfl (by decide +kernel) ⟨Nat.le_of_ble_eq_true rfl, Nat.le_of_ble_eq_true rfl⟩) wl_T9_b (fun U hU hW => wl_T9_w hU hW hS (wl_freeB (bsC := [([(x, .inr (4, [.ref (sa 0), .ref (ja 0), .ref (ta 0), .ref h, .ref q]))] : va_W), ([(h, .inr (0, [.ref g, .int (nI z)]))] : va_W), ([(g, .inl (cy 3, 6, (.inr (.inr (.inr (.inr (q_rf L)))))))] : va_W), plW cy L, stW cy sa v]) (bsR := [joW cy ja w]) hD hS hA) hX) hK hP hD hS hA rfl hl.1 rfl (Nat.le_of_ble_eq_true rfl) dL_act_317 ⟨Nat.le_of_ble_eq_true rfl, Nat.le_of_ble_eq_true rfl⟩ (fun r11 bs12 H locs e13 _ _ hP hD hS => ?_)
    obtain ⟨L114, z115, er11, e13, f16, f17, f18⟩ := e13
    have e13 : bs12 = [([(x, .inr (4, [.ref (sa 0), .ref (ja 0), .ref (ta 0), .ref h, .ref q]))] : va_W), ([(h, .inr (0, [.ref g, .int (nI z115)]))] : va_W), ([(g, .inl (cy 3, 6, (.inr (.inr (.inr (.inr (q_rf L114)))))))] : va_W), plW cy L114, stW cy sa (su v 5 ((y / 16) % 3) (nI v9))] := e13
    subst e13
    have er11 : r11 = v 5 ((y / 16) % 3) := er11
    subst er11
    refine W.widen (k := 8) (n := 176) (Nat.le_refl _) (Nat.le_refl _) ?_
    have hP : va_P D vwCl ([([(x, .inr (4, [.ref (sa 0), .ref (ja 0), .ref (ta 0), .ref h, .ref q]))] : va_W), ([(h, .inr (0, [.ref g, .int (nI z115)]))] : va_W), ([(g, .inl (cy 3, 6, (.inr (.inr (.inr (.inr (q_rf L114)))))))] : va_W), plW cy L114, stW cy sa (su v 5 ((y / 16) % 3) (nI v9)), joW cy ja w] : List va_W).flatten H := hP
    have hD : va_D A ([([(x, .inr (4, [.ref (sa 0), .ref (ja 0), .ref (ta 0), .ref h, .ref q]))] : va_W), ([(h, .inr (0, [.ref g, .int (nI z115)]))] : va_W), ([(g, .inl (cy 3, 6, (.inr (.inr (.inr (.inr (q_rf L114)))))))] : va_W), plW cy L114, stW cy sa (su v 5 ((y / 16) % 3) (nI v9)), joW cy ja w] : List va_W).flatten := hD
    have hP := wl_Po (bs' := [([(x, .inr (4, [.ref (sa 0), .ref (ja 0), .ref (ta 0), .ref h, .ref q]))] : va_W), ([(h, .inr (0, [.ref g, .int (nI z115)]))] : va_W), ([(g, .inl (cy 3, 6, (.inr (.inr (.inr (.inr (q_rf L114)))))))] : va_W), plW cy L114, joW cy ja w, stW cy sa (su v 5 ((y / 16) % 3) (nI v9))]) [0, 1, 2, 3, 5, 4] 6 rfl (by decide) rfl hP
    have hD := wl_Do (bs' := [([(x, .inr (4, [.ref (sa 0), .ref (ja 0), .ref (ta 0), .ref h, .ref q]))] : va_W), ([(h, .inr (0, [.ref g, .int (nI z115)]))] : va_W), ([(g, .inl (cy 3, 6, (.inr (.inr (.inr (.inr (q_rf L114)))))))] : va_W), plW cy L114, joW cy ja w, stW cy sa (su v 5 ((y / 16) % 3) (nI v9))]) [0, 1, 2, 3, 5, 4] 6 rfl (by decide) rfl hD
    refine lv_iload hx hb dL_act_320 (lv_at hl 1 rfl) ?_
    refine lv_icmp_ne (tgt := 340) hx hb dL_act_322 (by decide) (fun c19 => absurd rfl c19) (fun c19 => ?_)
    refine lv_aload_n hx hb dL_act_325 rfl (lv_at hl 3 rfl) ?_
    refine lv_iload hx hb dL_act_326 (lv_at hl 2 rfl) ?_
    refine wl_pV (As := [.int (nI ((y / 16) % 3))]) (rest := []) ⟨hx, hb, hml, hown, hts⟩ (m_X4_setting l D cy x sa ja ta h q (su v 5 ((y / 16) % 3) (nI v9)) ((y / 16) % 3) (by omega)) (cwV 1 hts gL_act_X4_setting rfl rfl rfl (by decide +kernel) ⟨Nat.le_of_ble_eq_true rfl, Nat.le_of_ble_eq_true rfl⟩) hK hP [0, 5] rfl rfl rfl rfl rfl rfl hl.1 rfl (Nat.le_of_ble_eq_true rfl) dL_act_328 ⟨Nat.le_of_ble_eq_true rfl, Nat.le_of_ble_eq_true rfl⟩ (fun r20 er20 => ?_)
    have er20 : r20 = (su v 5 ((y / 16) % 3) (nI v9)) 5 ((y / 16) % 3) := er20
    subst er20
    refine lv_iload hx hb dL_act_331 (lv_at hl 0 rfl) ?_
    refine lv_icmp_ne (tgt := 340) hx hb dL_act_333 (by decide) (fun c21 => absurd p_sus c21) (fun c21 => ?_)
    refine lv_iconst (v := 1) hx hb dL_act_336 (by decide) ?_
    refine lv_goto (tgt := 342) hx hb dL_act_337 (by decide) ?_
    exact wl_Ri (bs := [([(x, .inr (4, [.ref (sa 0), .ref (ja 0), .ref (ta 0), .ref h, .ref q]))] : va_W), ([(h, .inr (0, [.ref g, .int (nI z115)]))] : va_W), ([(g, .inl (cy 3, 6, (.inr (.inr (.inr (.inr (q_rf L114)))))))] : va_W), plW cy L114, joW cy ja w, stW cy sa (su v 5 ((y / 16) % 3) (nI v9))]) (r := 1) hx hb hr hlocks hAe hP hD hS (by subst ev9; exact ⟨L114, z115, _, _, n, T, rfl, rfl, f16, f17, f18, p_ok_set hok hm3.2.2, by omega⟩) dL_act_342
  refine wl_if_ne (tgt := 288) hx hb ((y / 16) % 3) dL_act_274 (by decide) (by omega) (fun c7 => ?_) (fun c7 => ?_)
  · refine lv_iload hx hb dL_act_288 (lv_at hl 1 rfl) ?_
    refine lv_iconst (v := 1) hx hb dL_act_290 (by decide) ?_
    refine wl_icmp_ne (tgt := 302) hx hb ((y / 16) % 3) 1 dL_act_291 (by decide) (by omega) (by omega) (fun c8 => ?_) (fun c8 => ?_)
    · refine lv_iload_n hx hb dL_act_302 rfl (lv_at hl 3 rfl) ?_
      refine lv_iconst (v := 3) hx hb dL_act_303 (by decide) ?_
      refine lv_idiv hx hb dL_act_304 (by decide) ?_
      refine wl_top (y := nI ((y / 16) / 3)) (pk_div (a := y / 16) (d := 3) (by omega) (by omega) (by omega)) ?_
      refine lv_sipush (v := 361) hx hb dL_act_305 (by decide) ?_
      refine lv_irem hx hb dL_act_308 (by decide) ?_
      refine wl_top (y := nI (((y / 16) / 3) % 361)) (pk_rem (a := (y / 16) / 3) (d := 361) (by omega) (by omega) (by omega)) ?_
      exact K10 _ (((y / 16) / 3) % 361) (by rw [if_neg c7, if_neg c8]) (lv_sub hl [0, 1, 5] rfl)
    · refine lv_iload_n hx hb dL_act_294 rfl (lv_at hl 3 rfl) ?_
      refine lv_iconst (v := 3) hx hb dL_act_295 (by decide) ?_
      refine lv_idiv hx hb dL_act_296 (by decide) ?_
      refine wl_top (y := nI ((y / 16) / 3)) (pk_div (a := y / 16) (d := 3) (by omega) (by omega) (by omega)) ?_
      refine lv_iconst (v := 2) hx hb dL_act_297 (by decide) ?_
      refine lv_irem hx hb dL_act_298 (by decide) ?_
      refine wl_top (y := nI (((y / 16) / 3) % 2)) (pk_rem (a := (y / 16) / 3) (d := 2) (by omega) (by omega) (by omega)) ?_
      refine lv_goto (tgt := 309) hx hb dL_act_299 (by decide) ?_
      exact K10 _ (((y / 16) / 3) % 2) (by rw [if_neg c7, if_pos c8]) (lv_sub hl [0, 1, 5] rfl)
  · refine lv_iconst (v := 2) hx hb dL_act_277 (by decide) ?_
    refine lv_iload_n hx hb dL_act_278 rfl (lv_at hl 3 rfl) ?_
    refine lv_iconst (v := 3) hx hb dL_act_279 (by decide) ?_
    refine lv_idiv hx hb dL_act_280 (by decide) ?_
    refine wl_top (y := nI ((y / 16) / 3)) (pk_div (a := y / 16) (d := 3) (by omega) (by omega) (by omega)) ?_
    refine lv_bipush (v := 11) hx hb dL_act_281 (by decide) ?_
    refine lv_irem hx hb dL_act_283 (by decide) ?_
    refine wl_top (y := nI (((y / 16) / 3) % 11)) (pk_rem (a := (y / 16) / 3) (d := 11) (by omega) (by omega) (by omega)) ?_
    refine lv_iadd hx hb dL_act_284 ?_
    refine wl_top (y := nI (2 + (((y / 16) / 3) % 11))) (nI_add 2 (((y / 16) / 3) % 11)) ?_
    refine lv_goto (tgt := 309) hx hb dL_act_285 (by decide) ?_
    exact K10 _ (2 + (((y / 16) / 3) % 11)) (by rw [if_pos c7]) (lv_sub hl [0, 1, 5] rfl)
theorem m_L_act (l : Launch) (D : va_G) (cy : Nat → ClassId) (x : Nat) (sa ja ta : Nat → Nat) (h q : Nat) (g : Nat) (L : HsL) (z : Nat) (w : Nat → Nat → Int32) (v : Nat → Nat → Int32) (n T y : Nat) (sz : Nat) (hz : z ≤ L.length) (hL : L.length ≤ 6) (hok : p_ok v n T) (hy : y < 2 ^ 31) : Met l yL_act wsL_act ({ frames := 8, cells := 8, slots := 176, locals := 300 } : Room) (wl_ic D cy (wl_T9 (va_A ([([(x, .inr (4, [.ref (sa 0), .ref (ja 0), .ref (ta 0), .ref h, .ref q]))] : va_W), ([(h, .inr (0, [.ref g, .int (nI z)]))] : va_W), ([(g, .inl (cy 3, 6, (.inr (.inr (.inr (.inr (q_rf L)))))))] : va_W), plW cy L, joW cy ja w, stW cy sa v] : List va_W).flatten sz)) [([(x, .inr (4, [.ref (sa 0), .ref (ja 0), .ref (ta 0), .ref h, .ref q]))] : va_W), ([(h, .inr (0, [.ref g, .int (nI z)]))] : va_W), ([(g, .inl (cy 3, 6, (.inr (.inr (.inr (.inr (q_rf L)))))))] : va_W), plW cy L, joW cy ja w, stW cy sa v] sz [.ref x, .int (nI y)]) (va_Qi (fun (r : Int32) (bs : List va_W) => ∃ (L1 : HsL) (z1 : Nat) (v1 : Nat → Nat → Int32) (w1 : Nat → Nat → Int32) (n1 : Nat) (T1 : Nat), r = 1 ∧ bs = [([(x, .inr (4, [.ref (sa 0), .ref (ja 0), .ref (ta 0), .ref h, .ref q]))] : va_W), ([(h, .inr (0, [.ref g, .int (nI z1)]))] : va_W), ([(g, .inl (cy 3, 6, (.inr (.inr (.inr (.inr (q_rf L1)))))))] : va_W), plW cy L1, joW cy ja w1, stW cy sa v1] ∧ z1 ≤ L1.length ∧ L1.length ≤ 6 ∧ (L1.take z1).map Prod.snd = q_push ((L.take z).map Prod.snd) v ∧ p_ok v1 n1 T1 ∧ T1 ≤ T + 8) (wl_ib D [([(x, .inr (4, [.ref (sa 0), .ref (ja 0), .ref (ta 0), .ref h, .ref q]))] : va_W), ([(h, .inr (0, [.ref g, .int (nI z)]))] : va_W), ([(g, .inl (cy 3, 6, (.inr (.inr (.inr (.inr (q_rf L)))))))] : va_W), plW cy L, joW cy ja w, stW cy sa v] sz) (va_A ([([(x, .inr (4, [.ref (sa 0), .ref (ja 0), .ref (ta 0), .ref h, .ref q]))] : va_W), ([(h, .inr (0, [.ref g, .int (nI z)]))] : va_W), ([(g, .inl (cy 3, 6, (.inr (.inr (.inr (.inr (q_rf L)))))))] : va_W), plW cy L, joW cy ja w, stW cy sa v] : List va_W).flatten sz)) 8 176 (va_A ([([(x, .inr (4, [.ref (sa 0), .ref (ja 0), .ref (ta 0), .ref h, .ref q]))] : va_W), ([(h, .inr (0, [.ref g, .int (nI z)]))] : va_W), ([(g, .inl (cy 3, 6, (.inr (.inr (.inr (.inr (q_rf L)))))))] : va_W), plW cy L, joW cy ja w, stW cy sa v] : List va_W).flatten sz) := by
  have hlt : y % 16 < 16 := Nat.mod_lt _ (by decide)
  have hn2 := hok.1
  rcases Nat.lt_or_ge (y % 16) 6 with c1 | c1
  · rcases Nat.lt_or_ge 120 (n + 12) with c2 | c2
    · exact m_L_act2 l D cy x sa ja ta h q g L z w v n T y sz hz hL hok hy c1 (by omega)
    · exact m_L_act1 l D cy x sa ja ta h q g L z w v n T y sz hz hL hok hy c1 c2
  · rcases Nat.lt_or_ge (y % 16) 8 with c2 | c2
    · rcases Nat.lt_or_ge n 120 with c3 | c3
      · exact m_L_act3 l D cy x sa ja ta h q g L z w v n T y sz hz hL hok hy c1 c2 c3
      · exact m_L_act4 l D cy x sa ja ta h q g L z w v n T y sz hz hL hok hy c1 c2 (by omega)
    · rcases Nat.lt_or_ge (y % 16) 10 with c3 | c3
      · exact m_L_act5 l D cy x sa ja ta h q g L z w v n T y sz hz hL hok hy c2 c3
      · rcases Nat.lt_or_ge (y % 16) 11 with c4 | c4
        · exact m_L_act6 l D cy x sa ja ta h q g L z w v n T y sz hz hL hok hy (by omega)
        · rcases Nat.lt_or_ge (y % 16) 13 with c5 | c5
          · exact m_L_act7 l D cy x sa ja ta h q g L z w v n T y sz hz hL hok hy c4 c5
          · rcases Nat.lt_or_ge (y % 16) 15 with c6 | c6
            · exact m_L_act8 l D cy x sa ja ta h q g L z w v n T y sz hz hL hok hy c5 c6
            · exact m_L_act9 l D cy x sa ja ta h q g L z w v n T y sz hz hL hok hy (by omega)
