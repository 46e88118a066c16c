/-! the law: what refuses; what sends -/
theorem p_aw_lastY {n : Nat} {v : Nat → Nat → Int32} (y : Nat) : (if n + 12 - 1 < n + 12 then q_aw (nI (y % 4096)) n v 12 6 (n + 12 - 1) else -1) = if y % 2 = 1 then 8 else 4 := by
  rw [p_aw_last (Nat.mod_lt _ (by decide)), show y % 4096 % 2 = y % 2 by omega]
theorem p_sus {v : Nat → Nat → Int32} {k i : Nat} {x : Int32} : su v k i x k i = x := by
  show (if k = k then upd (v k) i x else v k) i = x
  rw [if_pos rfl, q_upd, if_pos rfl]
set_option maxHeartbeats 4000000 in
set_option maxRecDepth 100000 in
theorem m_L_refuses (l : Launch) (hl0 : l.stackTraces = false) (D : va_G) (cy : Nat → ClassId) (x : Nat) (sa ja ta : Nat → Nat) (h q : Nat) (w : Nat → Nat → Int32) (v : Nat → Nat → Int32) (g : Nat) (f : Nat → Option Nat) (n z y : Nat) (sz : Nat) (hn : v 7 0 = nI n) (hn2 : n ≤ 120) (hs : ¬ v 5 2 < 0) (hy2 : y < 2 ^ 31) (hz6 : z ≤ 6) : Met l yL_refuses wsL_refuses ({ frames := 9, cells := 24, slots := 144, locals := 161 } : Room) (wl_ic D cy (wl_T9 (va_A ([([(x, .inr (4, [.ref (sa 0), .ref (ja 0), .ref (ta 0), .ref h, .ref q]))] : va_W), txW cy ta q_z0, joW cy ja w, stW cy sa v, ([(h, .inr (0, [.ref g, .int (nI z)]))] : va_W), ([(q, .inl (cy 3, 2, (.inr (.inr (.inr (.inr f))))))] : va_W)] : List va_W).flatten sz)) [([(x, .inr (4, [.ref (sa 0), .ref (ja 0), .ref (ta 0), .ref h, .ref q]))] : va_W), txW cy ta q_z0, joW cy ja w, stW cy sa v, ([(h, .inr (0, [.ref g, .int (nI z)]))] : va_W), ([(q, .inl (cy 3, 2, (.inr (.inr (.inr (.inr f))))))] : va_W)] sz [.ref x, .int (nI y)]) (va_Qi (fun (r : Int32) (bs : List va_W) => ∃ (w1 : Nat → Nat → Int32), r = (if True then 1 else 0) ∧ bs = [([(x, .inr (4, [.ref (sa 0), .ref (ja 0), .ref (ta 0), .ref h, .ref q]))] : va_W), txW cy ta q_z0, joW cy ja w1, stW cy sa v, ([(h, .inr (0, [.ref g, .int (nI z)]))] : va_W), ([(q, .inl (cy 3, 2, (.inr (.inr (.inr (.inr f))))))] : va_W)]) (wl_ib D [([(x, .inr (4, [.ref (sa 0), .ref (ja 0), .ref (ta 0), .ref h, .ref q]))] : va_W), txW cy ta q_z0, joW cy ja w, stW cy sa v, ([(h, .inr (0, [.ref g, .int (nI z)]))] : va_W), ([(q, .inl (cy 3, 2, (.inr (.inr (.inr (.inr f))))))] : va_W)] sz) (va_A ([([(x, .inr (4, [.ref (sa 0), .ref (ja 0), .ref (ta 0), .ref h, .ref q]))] : va_W), txW cy ta q_z0, joW cy ja w, stW cy sa v, ([(h, .inr (0, [.ref g, .int (nI z)]))] : va_W), ([(q, .inl (cy 3, 2, (.inr (.inr (.inr (.inr f))))))] : va_W)] : List va_W).flatten sz)) 24 144 (va_A ([([(x, .inr (4, [.ref (sa 0), .ref (ja 0), .ref (ta 0), .ref h, .ref q]))] : va_W), txW cy ta q_z0, joW cy ja w, stW cy sa v, ([(h, .inr (0, [.ref g, .int (nI z)]))] : va_W), ([(q, .inl (cy 3, 2, (.inr (.inr (.inr (.inr f))))))] : va_W)] : List va_W).flatten sz) := by
  refine wl_ofI (cc := cL_refuses) (maxL := 7) (ret := (some .boolean)) (by decide) rfl (Nat.le_of_ble_eq_true rfl) ?_
  intro p e s m below meth c ls A hx hb hr hts hown hlocks hml hnm hsz hAe hP hK hD hX hA hS hl
  rw [hAe] at hX
  have hl : lv_has ls 7 [(0, .ref x), (1, .int (nI y))] := hl
  refine lv_aload_n hx hb dL_refuses_0 rfl (lv_at hl 0 rfl) ?_
  refine wl_pSl (As := [.ref x]) (rest := []) ⟨hx, hb, hml, hown, hts⟩ (m_L_seen l D cy x sa ja ta h q v z g n hn hn2) (va_cwS 1 hts gL_refuses_L_seen rfl rfl rfl (by decide +kernel) ⟨Nat.le_of_ble_eq_true rfl, Nat.le_of_ble_eq_true rfl⟩) hK hP [0, 3, 4] rfl rfl hl.1 rfl (Nat.le_of_ble_eq_true rfl) dL_refuses_1 ⟨Nat.le_of_ble_eq_true rfl, Nat.le_of_ble_eq_true rfl⟩ (fun r1 er1 => ?_)
  have er1 : r1 = p_see v n := er1
  subst er1
  refine lv_lstore_n (lv' := [(2, .long (p_see v n)), (0, .ref x), (1, .int (nI y))]) hx hb dL_refuses_4 rfl hl (by decide) rfl (fun ls hl => ?_)
  refine lv_aload_n hx hb dL_refuses_5 rfl (lv_at hl 1 rfl) ?_
  have hP := wl_Po (bs' := [([(x, .inr (4, [.ref (sa 0), .ref (ja 0), .ref (ta 0), .ref h, .ref q]))] : va_W), joW cy ja w, stW cy sa v, ([(h, .inr (0, [.ref g, .int (nI z)]))] : va_W), txW cy ta q_z0, ([(q, .inl (cy 3, 2, (.inr (.inr (.inr (.inr f))))))] : va_W)]) [0, 2, 3, 4, 1, 5] 6 rfl (by decide) rfl hP
  have hD := wl_Do (bs' := [([(x, .inr (4, [.ref (sa 0), .ref (ja 0), .ref (ta 0), .ref h, .ref q]))] : va_W), joW cy ja w, stW cy sa v, ([(h, .inr (0, [.ref g, .int (nI z)]))] : va_W), txW cy ta q_z0, ([(q, .inl (cy 3, 2, (.inr (.inr (.inr (.inr f))))))] : va_W)]) [0, 2, 3, 4, 1, 5] 6 rfl (by decide) rfl hD
  refine wl_iVl (As := []) (rest := []) (bsC := [([(x, .inr (4, [.ref (sa 0), .ref (ja 0), .ref (ta 0), .ref h, .ref q]))] : va_W), joW cy ja w, stW cy sa v, ([(h, .inr (0, [.ref g, .int (nI z)]))] : va_W), txW cy ta q_z0, ([(q, .inl (cy 3, 2, (.inr (.inr (.inr (.inr f))))))] : va_W)]) (bsR := []) ⟨hx, hb, hml, hown, hts⟩ (m_X4_dig l D cy x sa ja ta h q w v g f n z s.heap.size hn hn2 hs) (cwV 0 hts gL_refuses_X4_digest rfl rfl rfl (by decide +kernel) ⟨Nat.le_of_ble_eq_true rfl, Nat.le_of_ble_eq_true rfl⟩) wl_xT (fun _ _ _ => trivial) hK hP hD hS hA rfl rfl rfl rfl rfl hl.1 rfl (Nat.le_of_ble_eq_true rfl) dL_refuses_6 ⟨Nat.le_of_ble_eq_true rfl, Nat.le_of_ble_eq_true rfl⟩ (fun r2 bs3 H locs e4 _ _ hP hD hS => ?_)
  obtain ⟨er2, e4⟩ : r2 = p_dig v n z f ∧ bs3 = [([(x, .inr (4, [.ref (sa 0), .ref (ja 0), .ref (ta 0), .ref h, .ref q]))] : va_W), joW cy ja (q_gt v w n 8), stW cy sa v, ([(h, .inr (0, [.ref g, .int (nI z)]))] : va_W), txW cy ta q_z0, ([(q, .inl (cy 3, 2, (.inr (.inr (.inr (.inr f))))))] : va_W)] := e4
  subst e4
  subst er2
  have hP : va_P D vwCl ([([(x, .inr (4, [.ref (sa 0), .ref (ja 0), .ref (ta 0), .ref h, .ref q]))] : va_W), joW cy ja (q_gt v w n 8), stW cy sa v, ([(h, .inr (0, [.ref g, .int (nI z)]))] : va_W), txW cy ta q_z0, ([(q, .inl (cy 3, 2, (.inr (.inr (.inr (.inr f))))))] : va_W)] : List va_W).flatten H := hP
  have hD : va_D A ([([(x, .inr (4, [.ref (sa 0), .ref (ja 0), .ref (ta 0), .ref h, .ref q]))] : va_W), joW cy ja (q_gt v w n 8), stW cy sa v, ([(h, .inr (0, [.ref g, .int (nI z)]))] : va_W), txW cy ta q_z0, ([(q, .inl (cy 3, 2, (.inr (.inr (.inr (.inr f))))))] : va_W)] : List va_W).flatten := hD
  have hP := wl_Po (bs' := [([(x, .inr (4, [.ref (sa 0), .ref (ja 0), .ref (ta 0), .ref h, .ref q]))] : va_W), txW cy ta q_z0, joW cy ja (q_gt v w n 8), stW cy sa v, ([(h, .inr (0, [.ref g, .int (nI z)]))] : va_W), ([(q, .inl (cy 3, 2, (.inr (.inr (.inr (.inr f))))))] : va_W)]) [0, 4, 1, 2, 3, 5] 6 rfl (by decide) rfl hP
  have hD := wl_Do (bs' := [([(x, .inr (4, [.ref (sa 0), .ref (ja 0), .ref (ta 0), .ref h, .ref q]))] : va_W), txW cy ta q_z0, joW cy ja (q_gt v w n 8), stW cy sa v, ([(h, .inr (0, [.ref g, .int (nI z)]))] : va_W), ([(q, .inl (cy 3, 2, (.inr (.inr (.inr (.inr f))))))] : va_W)]) [0, 4, 1, 2, 3, 5] 6 rfl (by decide) rfl hD
  refine lv_lstore (lv' := [(4, .long (p_dig v n z f)), (2, .long (p_see v n)), (0, .ref x), (1, .int (nI y))]) hx hb dL_refuses_9 hl (by decide) rfl (fun ls hl => ?_)
  refine lv_aload_n hx hb dL_refuses_11 rfl (lv_at hl 2 rfl) ?_
  refine lv_bipush (v := 10) hx hb dL_refuses_12 (by decide) ?_
  refine wl_pV (As := [.int 10]) (rest := []) ⟨hx, hb, hml, hown, hts⟩ (m_X4_cnt10 l D cy x sa ja ta h q v z g ) (cwV 1 hts gL_refuses_X4_count rfl rfl rfl (by decide +kernel) ⟨Nat.le_of_ble_eq_true rfl, Nat.le_of_ble_eq_true rfl⟩) hK hP [0, 3, 4] rfl rfl rfl rfl rfl rfl hl.1 rfl (Nat.le_of_ble_eq_true rfl) dL_refuses_14 ⟨Nat.le_of_ble_eq_true rfl, Nat.le_of_ble_eq_true rfl⟩ (fun r5 er5 => ?_)
  have er5 : r5 = nI z := er5
  subst er5
  refine lv_istore (lv' := [(6, .int (nI z)), (4, .long (p_dig v n z f)), (2, .long (p_see v n)), (0, .ref x), (1, .int (nI y))]) hx hb dL_refuses_17 hl (by decide) rfl (fun ls hl => ?_)
  refine lv_aload_n hx hb dL_refuses_19 rfl (lv_at hl 3 rfl) ?_
  refine lv_iload_n hx hb dL_refuses_20 rfl (lv_at hl 4 rfl) ?_
  refine wl_iS (As := [.ref x, .int (nI y)]) (rest := []) (bsC := [([(x, .inr (4, [.ref (sa 0), .ref (ja 0), .ref (ta 0), .ref h, .ref q]))] : va_W), txW cy ta q_z0]) (bsR := [joW cy ja (q_gt v w n 8), stW cy sa v, ([(h, .inr (0, [.ref g, .int (nI z)]))] : va_W), ([(q, .inl (cy 3, 2, (.inr (.inr (.inr (.inr f))))))] : va_W)]) ⟨hx, hb, hml, hown, hts⟩ (m_L_refusesAny l hl0 D cy x sa ja ta h q y H.size hy2) (va_cwS 2 hts gL_refuses_L_refusesAny rfl rfl rfl (by decide +kernel) ⟨Nat.le_of_ble_eq_true rfl, Nat.le_of_ble_eq_true rfl⟩) wl_T9_b (fun U hU hW => wl_T9_w hU hW hS (wl_freeB (bsC := [([(x, .inr (4, [.ref (sa 0), .ref (ja 0), .ref (ta 0), .ref h, .ref q]))] : va_W), txW cy ta q_z0]) (bsR := [joW cy ja (q_gt v w n 8), stW cy sa v, ([(h, .inr (0, [.ref g, .int (nI z)]))] : va_W), ([(q, .inl (cy 3, 2, (.inr (.inr (.inr (.inr f))))))] : va_W)]) hD hS hA) hX) hK hP hD hS hA rfl hl.1 rfl (Nat.le_of_ble_eq_true rfl) dL_refuses_21 ⟨Nat.le_of_ble_eq_true rfl, Nat.le_of_ble_eq_true rfl⟩ (fun r6 bs7 H locs e8 _ _ hP hD hS => ?_)
  obtain ⟨er6, e8⟩ : r6 = (if True then 1 else 0) ∧ bs7 = [([(x, .inr (4, [.ref (sa 0), .ref (ja 0), .ref (ta 0), .ref h, .ref q]))] : va_W), txW cy ta q_z0] := e8
  subst e8
  refine W.widen (k := 24) (n := 144) (Nat.le_refl _) (Nat.le_refl _) ?_
  have hP : va_P D vwCl ([([(x, .inr (4, [.ref (sa 0), .ref (ja 0), .ref (ta 0), .ref h, .ref q]))] : va_W), txW cy ta q_z0, joW cy ja (q_gt v w n 8), stW cy sa v, ([(h, .inr (0, [.ref g, .int (nI z)]))] : va_W), ([(q, .inl (cy 3, 2, (.inr (.inr (.inr (.inr f))))))] : va_W)] : List va_W).flatten H := hP
  have hD : va_D A ([([(x, .inr (4, [.ref (sa 0), .ref (ja 0), .ref (ta 0), .ref h, .ref q]))] : va_W), txW cy ta q_z0, joW cy ja (q_gt v w n 8), stW cy sa v, ([(h, .inr (0, [.ref g, .int (nI z)]))] : va_W), ([(q, .inl (cy 3, 2, (.inr (.inr (.inr (.inr f))))))] : va_W)] : List va_W).flatten := hD
  refine wl_b_eq (tgt := 61) hx hb True er6 dL_refuses_24 (by decide) (fun c9 => absurd trivial c9) (fun c9 => ?_)
  refine lv_aload_n hx hb dL_refuses_27 rfl (lv_at hl 3 rfl) ?_
  refine wl_pSl (As := [.ref x]) (rest := []) ⟨hx, hb, hml, hown, hts⟩ (m_L_seen l D cy x sa ja ta h q v z g n hn hn2) (va_cwS 1 hts gL_refuses_L_seen rfl rfl rfl (by decide +kernel) ⟨Nat.le_of_ble_eq_true rfl, Nat.le_of_ble_eq_true rfl⟩) hK hP [0, 3, 4] rfl rfl hl.1 rfl (Nat.le_of_ble_eq_true rfl) dL_refuses_28 ⟨Nat.le_of_ble_eq_true rfl, Nat.le_of_ble_eq_true rfl⟩ (fun r10 er10 => ?_)
  have er10 : r10 = p_see v n := er10
  subst er10
  refine lv_lload_n hx hb dL_refuses_31 rfl (lv_at hl 2 rfl) ?_
  refine wl_lcmpE hx hb (x := (p_see v n)) (y := (p_see v n)) rfl dL_refuses_32 ?_
  refine wl_if_ne (tgt := 61) hx hb 0 dL_refuses_33 (by decide) (by omega) (fun c11 => absurd c11 (by decide)) (fun c11 => ?_)
  refine lv_aload_n hx hb dL_refuses_36 rfl (lv_at hl 3 rfl) ?_
  refine lv_bipush (v := 10) hx hb dL_refuses_37 (by decide) ?_
  refine wl_pV (As := [.int 10]) (rest := []) ⟨hx, hb, hml, hown, hts⟩ (m_X4_cnt10 l D cy x sa ja ta h q v z g ) (cwV 1 hts gL_refuses_X4_count rfl rfl rfl (by decide +kernel) ⟨Nat.le_of_ble_eq_true rfl, Nat.le_of_ble_eq_true rfl⟩) hK hP [0, 3, 4] rfl rfl rfl rfl rfl rfl hl.1 rfl (Nat.le_of_ble_eq_true rfl) dL_refuses_39 ⟨Nat.le_of_ble_eq_true rfl, Nat.le_of_ble_eq_true rfl⟩ (fun r12 er12 => ?_)
  have er12 : r12 = nI z := er12
  subst er12
  refine lv_iload hx hb dL_refuses_42 (lv_at hl 0 rfl) ?_
  refine wl_icmp_ne (tgt := 61) hx hb z z dL_refuses_44 (by decide) (by omega) (by omega) (fun c13 => absurd c13 (by omega)) (fun c13 => ?_)
  refine lv_aload_n hx hb dL_refuses_47 rfl (lv_at hl 3 rfl) ?_
  have hP := wl_Po (bs' := [([(x, .inr (4, [.ref (sa 0), .ref (ja 0), .ref (ta 0), .ref h, .ref q]))] : va_W), joW cy ja (q_gt v w n 8), stW cy sa v, ([(h, .inr (0, [.ref g, .int (nI z)]))] : va_W), txW cy ta q_z0, ([(q, .inl (cy 3, 2, (.inr (.inr (.inr (.inr f))))))] : va_W)]) [0, 2, 3, 4, 1, 5] 6 rfl (by decide) rfl hP
  have hD := wl_Do (bs' := [([(x, .inr (4, [.ref (sa 0), .ref (ja 0), .ref (ta 0), .ref h, .ref q]))] : va_W), joW cy ja (q_gt v w n 8), stW cy sa v, ([(h, .inr (0, [.ref g, .int (nI z)]))] : va_W), txW cy ta q_z0, ([(q, .inl (cy 3, 2, (.inr (.inr (.inr (.inr f))))))] : va_W)]) [0, 2, 3, 4, 1, 5] 6 rfl (by decide) rfl hD
  refine wl_iVl (As := []) (rest := []) (bsC := [([(x, .inr (4, [.ref (sa 0), .ref (ja 0), .ref (ta 0), .ref h, .ref q]))] : va_W), joW cy ja (q_gt v w n 8), stW cy sa v, ([(h, .inr (0, [.ref g, .int (nI z)]))] : va_W), txW cy ta q_z0, ([(q, .inl (cy 3, 2, (.inr (.inr (.inr (.inr f))))))] : va_W)]) (bsR := []) ⟨hx, hb, hml, hown, hts⟩ (m_X4_dig l D cy x sa ja ta h q (q_gt v w n 8) v g f n z H.size hn hn2 hs) (cwV 0 hts gL_refuses_X4_digest rfl rfl rfl (by decide +kernel) ⟨Nat.le_of_ble_eq_true rfl, Nat.le_of_ble_eq_true rfl⟩) wl_xT (fun _ _ _ => trivial) hK hP hD hS hA rfl rfl rfl rfl rfl hl.1 rfl (Nat.le_of_ble_eq_true rfl) dL_refuses_48 ⟨Nat.le_of_ble_eq_true rfl, Nat.le_of_ble_eq_true rfl⟩ (fun r14 bs15 H locs e16 _ _ hP hD hS => ?_)
  obtain ⟨er14, e16⟩ : r14 = p_dig v n z f ∧ bs15 = [([(x, .inr (4, [.ref (sa 0), .ref (ja 0), .ref (ta 0), .ref h, .ref q]))] : va_W), joW cy ja (q_gt v (q_gt v w n 8) n 8), stW cy sa v, ([(h, .inr (0, [.ref g, .int (nI z)]))] : va_W), txW cy ta q_z0, ([(q, .inl (cy 3, 2, (.inr (.inr (.inr (.inr f))))))] : va_W)] := e16
  subst e16
  subst er14
  have hP : va_P D vwCl ([([(x, .inr (4, [.ref (sa 0), .ref (ja 0), .ref (ta 0), .ref h, .ref q]))] : va_W), joW cy ja (q_gt v (q_gt v w n 8) n 8), stW cy sa v, ([(h, .inr (0, [.ref g, .int (nI z)]))] : va_W), txW cy ta q_z0, ([(q, .inl (cy 3, 2, (.inr (.inr (.inr (.inr f))))))] : va_W)] : List va_W).flatten H := hP
  have hD : va_D A ([([(x, .inr (4, [.ref (sa 0), .ref (ja 0), .ref (ta 0), .ref h, .ref q]))] : va_W), joW cy ja (q_gt v (q_gt v w n 8) n 8), stW cy sa v, ([(h, .inr (0, [.ref g, .int (nI z)]))] : va_W), txW cy ta q_z0, ([(q, .inl (cy 3, 2, (.inr (.inr (.inr (.inr f))))))] : va_W)] : List va_W).flatten := hD
  have hP := wl_Po (bs' := [([(x, .inr (4, [.ref (sa 0), .ref (ja 0), .ref (ta 0), .ref h, .ref q]))] : va_W), txW cy ta q_z0, joW cy ja (q_gt v (q_gt v w n 8) n 8), stW cy sa v, ([(h, .inr (0, [.ref g, .int (nI z)]))] : va_W), ([(q, .inl (cy 3, 2, (.inr (.inr (.inr (.inr f))))))] : va_W)]) [0, 4, 1, 2, 3, 5] 6 rfl (by decide) rfl hP
  have hD := wl_Do (bs' := [([(x, .inr (4, [.ref (sa 0), .ref (ja 0), .ref (ta 0), .ref h, .ref q]))] : va_W), txW cy ta q_z0, joW cy ja (q_gt v (q_gt v w n 8) n 8), stW cy sa v, ([(h, .inr (0, [.ref g, .int (nI z)]))] : va_W), ([(q, .inl (cy 3, 2, (.inr (.inr (.inr (.inr f))))))] : va_W)]) [0, 4, 1, 2, 3, 5] 6 rfl (by decide) rfl hD
  refine lv_lload hx hb dL_refuses_51 (lv_at hl 1 rfl) ?_
  refine wl_lcmpE hx hb (x := (p_dig v n z f)) (y := (p_dig v n z f)) rfl dL_refuses_53 ?_
  refine wl_if_ne (tgt := 61) hx hb 0 dL_refuses_54 (by decide) (by omega) (fun c17 => absurd c17 (by decide)) (fun c17 => ?_)
  refine lv_iconst (v := 1) hx hb dL_refuses_57 (by decide) ?_
  refine lv_goto (tgt := 62) hx hb dL_refuses_58 (by decide) ?_
  exact wl_Rz (bs := [([(x, .inr (4, [.ref (sa 0), .ref (ja 0), .ref (ta 0), .ref h, .ref q]))] : va_W), txW cy ta q_z0, joW cy ja (q_gt v (q_gt v w n 8) n 8), stW cy sa v, ([(h, .inr (0, [.ref g, .int (nI z)]))] : va_W), ([(q, .inl (cy 3, 2, (.inr (.inr (.inr (.inr f))))))] : va_W)]) (r := 1) (True) hx hb hr hlocks hAe hP hD hS (by rfl) (by exact ⟨_, rfl, rfl⟩) dL_refuses_62
set_option maxHeartbeats 4000000 in
set_option maxRecDepth 100000 in
theorem m_L_sendsW (l : Launch) (D : va_G) (cy : Nat → ClassId) (x : Nat) (sa ja ta : Nat → Nat) (h q : Nat) (g : Nat) (L : HsL) (z : Nat) (v : Nat → Nat → Int32) (n y : Nat) (sz : Nat) (hz : z ≤ L.length) (hL : L.length ≤ 6) (hy : y < 2 ^ 31) (hn : v 7 0 = nI n) (hr : n + 12 ≤ 120) : Met l yL_sends wsL_sends ({ frames := 4, cells := 8, slots := 176, locals := 89 } : Room) (wl_ic D cy (wl_T9 (va_A ([([(x, .inr (4, [.ref (sa 0), .ref (ja 0), .ref (ta 0), .ref h, .ref q]))] : va_W), ([(h, .inr (0, [.ref g, .int (nI z)]))] : va_W), ([(g, .inl (cy 3, 6, (.inr (.inr (.inr (.inr (q_rf L)))))))] : va_W), plW cy L, stW cy sa v] : List va_W).flatten sz)) [([(x, .inr (4, [.ref (sa 0), .ref (ja 0), .ref (ta 0), .ref h, .ref q]))] : va_W), ([(h, .inr (0, [.ref g, .int (nI z)]))] : va_W), ([(g, .inl (cy 3, 6, (.inr (.inr (.inr (.inr (q_rf L)))))))] : va_W), plW cy L, stW cy sa v] sz [.ref x, .int (nI y), .int (nI 1)]) (va_Qi (fun (r : Int32) (bs : List va_W) => ∃ (L1 : HsL) (z1 : Nat), r = 1 ∧ bs = [([(x, .inr (4, [.ref (sa 0), .ref (ja 0), .ref (ta 0), .ref h, .ref q]))] : va_W), ([(h, .inr (0, [.ref g, .int (nI z1)]))] : va_W), ([(g, .inl (cy 3, 6, (.inr (.inr (.inr (.inr (q_rf L1)))))))] : va_W), plW cy L1, stW cy sa (q_aw (nI (y % 4096)) n v 12)] ∧ z1 ≤ L1.length ∧ L1.length ≤ 6 ∧ (L1.take z1).map Prod.snd = q_push ((L.take z).map Prod.snd) v) (wl_ib D [([(x, .inr (4, [.ref (sa 0), .ref (ja 0), .ref (ta 0), .ref h, .ref q]))] : va_W), ([(h, .inr (0, [.ref g, .int (nI z)]))] : va_W), ([(g, .inl (cy 3, 6, (.inr (.inr (.inr (.inr (q_rf L)))))))] : va_W), plW cy L, stW cy sa v] sz) (va_A ([([(x, .inr (4, [.ref (sa 0), .ref (ja 0), .ref (ta 0), .ref h, .ref q]))] : va_W), ([(h, .inr (0, [.ref g, .int (nI z)]))] : va_W), ([(g, .inl (cy 3, 6, (.inr (.inr (.inr (.inr (q_rf L)))))))] : va_W), plW cy L, stW cy sa v] : List va_W).flatten sz)) 8 176 (va_A ([([(x, .inr (4, [.ref (sa 0), .ref (ja 0), .ref (ta 0), .ref h, .ref q]))] : va_W), ([(h, .inr (0, [.ref g, .int (nI z)]))] : va_W), ([(g, .inl (cy 3, 6, (.inr (.inr (.inr (.inr (q_rf L)))))))] : va_W), plW cy L, stW cy sa v] : List va_W).flatten sz) := by
  refine wl_ofI (cc := cL_sends) (maxL := 9) (ret := (some .int)) (by decide) rfl (Nat.le_of_ble_eq_true rfl) ?_
  intro p e s m below meth c ls A hx hb hr hts hown hlocks hml hnm hsz hAe hP hK hD hX hA hS hl
  rw [hAe] at hX
  have hl : lv_has ls 9 [(0, .ref x), (1, .int (nI y)), (2, .int (nI 1))] := hl
  refine lv_aload_n hx hb dL_sends_0 rfl (lv_at hl 0 rfl) ?_
  refine lv_iconst (v := 0) hx hb dL_sends_1 (by decide) ?_
  refine wl_pV (As := [.int 0]) (rest := []) ⟨hx, hb, hml, hown, hts⟩ (m_X4_cnt0n l D cy x sa ja ta h q v z g n hn) (cwV 1 hts gL_sends_X4_count rfl rfl rfl (by decide +kernel) ⟨Nat.le_of_ble_eq_true rfl, Nat.le_of_ble_eq_true rfl⟩) hK hP [0, 4, 1] rfl rfl rfl rfl rfl rfl hl.1 rfl (Nat.le_of_ble_eq_true rfl) dL_sends_2 ⟨Nat.le_of_ble_eq_true rfl, Nat.le_of_ble_eq_true rfl⟩ (fun r1 er1 => ?_)
  have er1 : r1 = nI n := er1
  subst er1
  refine lv_istore_n (lv' := [(3, .int (nI n)), (0, .ref x), (1, .int (nI y)), (2, .int (nI 1))]) hx hb dL_sends_5 rfl hl (by decide) rfl (fun ls hl => ?_)
  refine lv_aload_n hx hb dL_sends_6 rfl (lv_at hl 1 rfl) ?_
  refine lv_iconst (v := 2) hx hb dL_sends_7 (by decide) ?_
  refine wl_pV (As := [.int 2]) (rest := []) ⟨hx, hb, hml, hown, hts⟩ (m_X4_cnt2 l D cy x sa ja ta h q v z g ) (cwV 1 hts gL_sends_X4_count rfl rfl rfl (by decide +kernel) ⟨Nat.le_of_ble_eq_true rfl, Nat.le_of_ble_eq_true rfl⟩) hK hP [0, 4, 1] rfl rfl rfl rfl rfl rfl hl.1 rfl (Nat.le_of_ble_eq_true rfl) dL_sends_8 ⟨Nat.le_of_ble_eq_true rfl, Nat.le_of_ble_eq_true rfl⟩ (fun r2 er2 => ?_)
  have er2 : r2 = v 7 2 + v 7 3 + v 7 4 + v 7 0 := er2
  subst er2
  refine lv_istore (lv' := [(4, .int (v 7 2 + v 7 3 + v 7 4 + v 7 0)), (3, .int (nI n)), (0, .ref x), (1, .int (nI y)), (2, .int (nI 1))]) hx hb dL_sends_11 hl (by decide) rfl (fun ls hl => ?_)
  refine lv_aload_n hx hb dL_sends_13 rfl (lv_at hl 2 rfl) ?_
  refine lv_bipush (v := 9) hx hb dL_sends_14 (by decide) ?_
  refine wl_pV (As := [.int 9]) (rest := []) ⟨hx, hb, hml, hown, hts⟩ (m_X4_cnt9 l D cy x sa ja ta h q v z g ) (cwV 1 hts gL_sends_X4_count rfl rfl rfl (by decide +kernel) ⟨Nat.le_of_ble_eq_true rfl, Nat.le_of_ble_eq_true rfl⟩) hK hP [0, 4, 1] rfl rfl rfl rfl rfl rfl hl.1 rfl (Nat.le_of_ble_eq_true rfl) dL_sends_16 ⟨Nat.le_of_ble_eq_true rfl, Nat.le_of_ble_eq_true rfl⟩ (fun r3 er3 => ?_)
  have er3 : r3 = v 7 5 := er3
  subst er3
  refine lv_istore (lv' := [(5, .int (v 7 5)), (4, .int (v 7 2 + v 7 3 + v 7 4 + v 7 0)), (3, .int (nI n)), (0, .ref x), (1, .int (nI y)), (2, .int (nI 1))]) hx hb dL_sends_19 hl (by decide) rfl (fun ls hl => ?_)
  refine lv_iload_n hx hb dL_sends_21 rfl (lv_at hl 5 rfl) ?_
  refine wl_if_eq (tgt := 30) hx hb 1 dL_sends_22 (by decide) (by omega) (fun c4 => absurd c4 (by decide)) (fun c4 => ?_)
  refine lv_bipush (v := 12) hx hb dL_sends_25 (by decide) ?_
  refine lv_goto (tgt := 31) hx hb dL_sends_27 (by decide) ?_
  refine lv_istore (lv' := [(6, .int 12), (5, .int (v 7 5)), (4, .int (v 7 2 + v 7 3 + v 7 4 + v 7 0)), (3, .int (nI n)), (0, .ref x), (1, .int (nI y)), (2, .int (nI 1))]) hx hb dL_sends_31 hl (by decide) rfl (fun ls hl => ?_)
  refine lv_iload_n hx hb dL_sends_33 rfl (lv_at hl 6 rfl) ?_
  refine wl_if_eq (tgt := 49) hx hb 1 dL_sends_34 (by decide) (by omega) (fun c5 => absurd c5 (by decide)) (fun c5 => ?_)
  refine lv_aload_n hx hb dL_sends_37 rfl (lv_at hl 4 rfl) ?_
  refine lv_iload_n hx hb dL_sends_38 rfl (lv_at hl 5 rfl) ?_
  refine lv_sipush (v := 4096) hx hb dL_sends_39 (by decide) ?_
  refine lv_irem hx hb dL_sends_42 (by decide) ?_
  refine wl_top (y := nI (y % 4096)) (pk_rem (a := y) (d := 4096) (by omega) (by omega) (by omega)) ?_
  refine wl_iV (As := [.int (nI (y % 4096))]) (rest := []) (bsC := [([(x, .inr (4, [.ref (sa 0), .ref (ja 0), .ref (ta 0), .ref h, .ref q]))] : va_W), ([(h, .inr (0, [.ref g, .int (nI z)]))] : va_W), ([(g, .inl (cy 3, 6, (.inr (.inr (.inr (.inr (q_rf L)))))))] : va_W), plW cy L, stW cy sa v]) (bsR := []) ⟨hx, hb, hml, hown, hts⟩ (m_X4_send l D cy x sa ja ta h q g L z v (y % 4096) n s.heap.size hz hL (by omega) hn (by omega)) (cwV 1 hts gL_sends_X4_send rfl rfl rfl (by decide +kernel) ⟨Nat.le_of_ble_eq_true rfl, Nat.le_of_ble_eq_true rfl⟩) wl_E_b (fun U _ hW => wl_E_w hW hX.1.1) hK hP hD hS hA rfl rfl rfl rfl rfl hl.1 rfl (Nat.le_of_ble_eq_true rfl) dL_sends_43 ⟨Nat.le_of_ble_eq_true rfl, Nat.le_of_ble_eq_true rfl⟩ (fun r6 bs7 H locs e8 _ _ hP hD hS => ?_)
  obtain ⟨L19, z110, er6, e8, f11, f12, f13⟩ := e8
  have e8 : bs7 = [([(x, .inr (4, [.ref (sa 0), .ref (ja 0), .ref (ta 0), .ref h, .ref q]))] : va_W), ([(h, .inr (0, [.ref g, .int (nI z110)]))] : va_W), ([(g, .inl (cy 3, 6, (.inr (.inr (.inr (.inr (q_rf L19)))))))] : va_W), plW cy L19, stW cy sa (q_aw (nI (y % 4096)) n v 12)] := e8
  subst e8
  have er6 : r6 = nI (n + 12) := er6
  subst er6
  refine W.widen (k := 8) (n := 176) (Nat.le_refl _) (Nat.le_refl _) ?_
  have hP : va_P D vwCl ([([(x, .inr (4, [.ref (sa 0), .ref (ja 0), .ref (ta 0), .ref h, .ref q]))] : va_W), ([(h, .inr (0, [.ref g, .int (nI z110)]))] : va_W), ([(g, .inl (cy 3, 6, (.inr (.inr (.inr (.inr (q_rf L19)))))))] : va_W), plW cy L19, stW cy sa (q_aw (nI (y % 4096)) n v 12)] : List va_W).flatten H := hP
  have hD : va_D A ([([(x, .inr (4, [.ref (sa 0), .ref (ja 0), .ref (ta 0), .ref h, .ref q]))] : va_W), ([(h, .inr (0, [.ref g, .int (nI z110)]))] : va_W), ([(g, .inl (cy 3, 6, (.inr (.inr (.inr (.inr (q_rf L19)))))))] : va_W), plW cy L19, stW cy sa (q_aw (nI (y % 4096)) n v 12)] : List va_W).flatten := hD
  refine lv_goto (tgt := 59) hx hb dL_sends_46 (by decide) ?_
  refine lv_istore (lv' := [(7, .int (nI (n + 12))), (6, .int 12), (5, .int (v 7 5)), (4, .int (v 7 2 + v 7 3 + v 7 4 + v 7 0)), (3, .int (nI n)), (0, .ref x), (1, .int (nI y)), (2, .int (nI 1))]) hx hb dL_sends_59 hl (by decide) rfl (fun ls hl => ?_)
  refine lv_iload_n hx hb dL_sends_61 rfl (lv_at hl 4 rfl) ?_
  refine lv_iload hx hb dL_sends_62 (lv_at hl 1 rfl) ?_
  refine lv_iadd hx hb dL_sends_64 ?_
  refine wl_top (y := nI (n + 12)) (nI_add n 12) ?_
  refine lv_bipush (v := 120) hx hb dL_sends_65 (by decide) ?_
  refine wl_icmp_le (tgt := 115) hx hb (n + 12) 120 dL_sends_67 (by decide) (by omega) (by omega) (fun c14 => ?_) (fun c14 => absurd c14 (by omega))
  refine lv_iload_n hx hb dL_sends_115 rfl (lv_at hl 7 rfl) ?_
  refine wl_if_eq (tgt := 135) hx hb 1 dL_sends_116 (by decide) (by omega) (fun c15 => absurd c15 (by decide)) (fun c15 => ?_)
  refine lv_iload_n hx hb dL_sends_119 rfl (lv_at hl 6 rfl) ?_
  refine lv_iconst (v := 2) hx hb dL_sends_120 (by decide) ?_
  refine lv_irem hx hb dL_sends_121 (by decide) ?_
  refine wl_top (y := nI (y % 2)) (pk_rem (a := y) (d := 2) (by omega) (by omega) (by omega)) ?_
  refine lv_iconst (v := 1) hx hb dL_sends_122 (by decide) ?_
  have K18 : ∀ (ls : Array Slot) (H : Heap) (locs : List Loc) (v17 : Int32), v17 = (if (y % 2) = 1 then 8 else 4) → va_P D vwCl ([([(x, .inr (4, [.ref (sa 0), .ref (ja 0), .ref (ta 0), .ref h, .ref q]))] : va_W), ([(h, .inr (0, [.ref g, .int (nI z110)]))] : va_W), ([(g, .inl (cy 3, 6, (.inr (.inr (.inr (.inr (q_rf L19)))))))] : va_W), plW cy L19, stW cy sa (q_aw (nI (y % 4096)) n v 12)] : List va_W).flatten H → va_D A ([([(x, .inr (4, [.ref (sa 0), .ref (ja 0), .ref (ta 0), .ref h, .ref q]))] : va_W), ([(h, .inr (0, [.ref g, .int (nI z110)]))] : va_W), ([(g, .inl (cy 3, 6, (.inr (.inr (.inr (.inr (q_rf L19)))))))] : va_W), plW cy L19, stW cy sa (q_aw (nI (y % 4096)) n v 12)] : List va_W).flatten → va_S A s.heap H locs → lv_has ls 9 [(7, .int (nI (n + 12))), (6, .int 12), (5, .int (v 7 5)), (4, .int (v 7 2 + v 7 3 + v 7 4 + v 7 0)), (3, .int (nI n)), (0, .ref x)] → W p l e ({ frames := 4, cells := 8, slots := 176, locals := 89 } : Room) s m ([.ref x, .int (nI y), .int (nI 1)] : List Value).toArray below meth c H locs 8 176 (MQ below (va_Qi (fun (r : Int32) (bs : List va_W) => ∃ (L1 : HsL) (z1 : Nat), r = 1 ∧ bs = [([(x, .inr (4, [.ref (sa 0), .ref (ja 0), .ref (ta 0), .ref h, .ref q]))] : va_W), ([(h, .inr (0, [.ref g, .int (nI z1)]))] : va_W), ([(g, .inl (cy 3, 6, (.inr (.inr (.inr (.inr (q_rf L1)))))))] : va_W), plW cy L1, stW cy sa (q_aw (nI (y % 4096)) n v 12)] ∧ z1 ≤ L1.length ∧ L1.length ≤ 6 ∧ (L1.take z1).map Prod.snd = q_push ((L.take z).map Prod.snd) v) (wl_ib D [([(x, .inr (4, [.ref (sa 0), .ref (ja 0), .ref (ta 0), .ref h, .ref q]))] : va_W), ([(h, .inr (0, [.ref g, .int (nI z)]))] : va_W), ([(g, .inl (cy 3, 6, (.inr (.inr (.inr (.inr (q_rf L)))))))] : va_W), plW cy L, stW cy sa v] sz) (va_A ([([(x, .inr (4, [.ref (sa 0), .ref (ja 0), .ref (ta 0), .ref h, .ref q]))] : va_W), ([(h, .inr (0, [.ref g, .int (nI z)]))] : va_W), ([(g, .inl (cy 3, 6, (.inr (.inr (.inr (.inr (q_rf L)))))))] : va_W), plW cy L, stW cy sa v] : List va_W).flatten sz)) ([.ref x, .int (nI y), .int (nI 1)] : List Value).toArray s 8 176 (va_A ([([(x, .inr (4, [.ref (sa 0), .ref (ja 0), .ref (ta 0), .ref h, .ref q]))] : va_W), ([(h, .inr (0, [.ref g, .int (nI z)]))] : va_W), ([(g, .inl (cy 3, 6, (.inr (.inr (.inr (.inr (q_rf L)))))))] : va_W), plW cy L, stW cy sa v] : List va_W).flatten sz)) (F0 m 141 ls [.int v17]) := by
    intro ls H locs v17 ev17 hP hD hS hl
    refine lv_istore (lv' := [(8, .int v17), (7, .int (nI (n + 12))), (6, .int 12), (5, .int (v 7 5)), (4, .int (v 7 2 + v 7 3 + v 7 4 + v 7 0)), (3, .int (nI n)), (0, .ref x)]) hx hb dL_sends_141 hl (by decide) rfl (fun ls hl => ?_)
    refine lv_iload hx hb dL_sends_143 (lv_at hl 1 rfl) ?_
    refine lv_iload_n hx hb dL_sends_145 rfl (lv_at hl 5 rfl) ?_
    refine lv_iload hx hb dL_sends_146 (lv_at hl 2 rfl) ?_
    refine lv_iadd hx hb dL_sends_148 ?_
    refine wl_top (y := nI (n + 12)) (nI_add n 12) ?_
    refine wl_icmp_ne (tgt := 203) hx hb (n + 12) (n + 12) dL_sends_149 (by decide) (by omega) (by omega) (fun c19 => absurd c19 (by omega)) (fun c19 => ?_)
    refine lv_aload_n hx hb dL_sends_152 rfl (lv_at hl 6 rfl) ?_
    refine lv_iconst (v := 0) hx hb dL_sends_153 (by decide) ?_
    refine wl_pV (As := [.int 0]) (rest := []) ⟨hx, hb, hml, hown, hts⟩ (m_X4_cnt0n l D cy x sa ja ta h q (q_aw (nI (y % 4096)) n v 12) z110 g (n + 12) (q_aw_cnt hn 12)) (cwV 1 hts gL_sends_X4_count rfl rfl rfl (by decide +kernel) ⟨Nat.le_of_ble_eq_true rfl, Nat.le_of_ble_eq_true rfl⟩) hK hP [0, 4, 1] rfl rfl rfl rfl rfl rfl hl.1 rfl (Nat.le_of_ble_eq_true rfl) dL_sends_154 ⟨Nat.le_of_ble_eq_true rfl, Nat.le_of_ble_eq_true rfl⟩ (fun r20 er20 => ?_)
    have er20 : r20 = nI (n + 12) := er20
    subst er20
    refine lv_iload hx hb dL_sends_157 (lv_at hl 1 rfl) ?_
    refine wl_icmp_ne (tgt := 203) hx hb (n + 12) (n + 12) dL_sends_159 (by decide) (by omega) (by omega) (fun c21 => absurd c21 (by omega)) (fun c21 => ?_)
    refine lv_aload_n hx hb dL_sends_162 rfl (lv_at hl 6 rfl) ?_
    refine lv_iconst (v := 2) hx hb dL_sends_163 (by decide) ?_
    refine wl_pV (As := [.int 2]) (rest := []) ⟨hx, hb, hml, hown, hts⟩ (m_X4_cnt2 l D cy x sa ja ta h q (q_aw (nI (y % 4096)) n v 12) z110 g ) (cwV 1 hts gL_sends_X4_count rfl rfl rfl (by decide +kernel) ⟨Nat.le_of_ble_eq_true rfl, Nat.le_of_ble_eq_true rfl⟩) hK hP [0, 4, 1] rfl rfl rfl rfl rfl rfl hl.1 rfl (Nat.le_of_ble_eq_true rfl) dL_sends_164 ⟨Nat.le_of_ble_eq_true rfl, Nat.le_of_ble_eq_true rfl⟩ (fun r22 er22 => ?_)
    have er22 : r22 = (q_aw (nI (y % 4096)) n v 12) 7 2 + (q_aw (nI (y % 4096)) n v 12) 7 3 + (q_aw (nI (y % 4096)) n v 12) 7 4 + (q_aw (nI (y % 4096)) n v 12) 7 0 := er22
    subst er22
    refine lv_iload hx hb dL_sends_167 (lv_at hl 4 rfl) ?_
    refine lv_iload hx hb dL_sends_169 (lv_at hl 2 rfl) ?_
    refine lv_iadd hx hb dL_sends_171 ?_
    refine lv_icmp_ne (tgt := 203) hx hb dL_sends_172 (by decide) (fun c23 => absurd (p_aw_sent hn) c23) (fun c23 => ?_)
    refine lv_aload_n hx hb dL_sends_175 rfl (lv_at hl 6 rfl) ?_
    refine lv_bipush (v := 9) hx hb dL_sends_176 (by decide) ?_
    refine wl_pV (As := [.int 9]) (rest := []) ⟨hx, hb, hml, hown, hts⟩ (m_X4_cnt9 l D cy x sa ja ta h q (q_aw (nI (y % 4096)) n v 12) z110 g ) (cwV 1 hts gL_sends_X4_count rfl rfl rfl (by decide +kernel) ⟨Nat.le_of_ble_eq_true rfl, Nat.le_of_ble_eq_true rfl⟩) hK hP [0, 4, 1] rfl rfl rfl rfl rfl rfl hl.1 rfl (Nat.le_of_ble_eq_true rfl) dL_sends_178 ⟨Nat.le_of_ble_eq_true rfl, Nat.le_of_ble_eq_true rfl⟩ (fun r24 er24 => ?_)
    have er24 : r24 = (q_aw (nI (y % 4096)) n v 12) 7 5 := er24
    subst er24
    refine lv_iload hx hb dL_sends_181 (lv_at hl 3 rfl) ?_
    refine lv_icmp_ne (tgt := 203) hx hb dL_sends_183 (by decide) (fun c25 => absurd (p_aw7 (by decide) 12) c25) (fun c25 => ?_)
    refine lv_aload_n hx hb dL_sends_186 rfl (lv_at hl 6 rfl) ?_
    refine lv_iload hx hb dL_sends_187 (lv_at hl 1 rfl) ?_
    refine lv_iconst (v := 1) hx hb dL_sends_189 (by decide) ?_
    refine lv_isub hx hb dL_sends_190 ?_
    refine wl_top (y := nI ((n + 12) - 1)) (pk_sub (a := n + 12) (b := 1) (by omega)) ?_
    refine wl_pV (As := [.int (nI ((n + 12) - 1))]) (rest := []) ⟨hx, hb, hml, hown, hts⟩ (m_X4_pulseAt l D cy x sa ja ta h q (q_aw (nI (y % 4096)) n v 12) ((n + 12) - 1) (n + 12) (by omega) (q_aw_cnt hn 12) (by omega)) (cwV 1 hts gL_sends_X4_pulseAt rfl rfl rfl (by decide +kernel) ⟨Nat.le_of_ble_eq_true rfl, Nat.le_of_ble_eq_true rfl⟩) hK hP [0, 4] rfl rfl rfl rfl rfl rfl hl.1 rfl (Nat.le_of_ble_eq_true rfl) dL_sends_191 ⟨Nat.le_of_ble_eq_true rfl, Nat.le_of_ble_eq_true rfl⟩ (fun r26 er26 => ?_)
    have er26 : r26 = if ((n + 12) - 1) < (n + 12) then (q_aw (nI (y % 4096)) n v 12) 6 ((n + 12) - 1) else -1 := er26
    subst er26
    refine lv_iload hx hb dL_sends_194 (lv_at hl 0 rfl) ?_
    have hlast := (p_aw_lastY (n := n) (v := v) y).trans ev17.symm
    refine lv_icmp_ne (tgt := 203) hx hb dL_sends_196 (by decide) (fun c27 => absurd hlast c27) (fun c27 => ?_)
    refine lv_iconst (v := 1) hx hb dL_sends_199 (by decide) ?_
    refine lv_goto (tgt := 205) hx hb dL_sends_200 (by decide) ?_
    exact wl_Ri (bs := [([(x, .inr (4, [.ref (sa 0), .ref (ja 0), .ref (ta 0), .ref h, .ref q]))] : va_W), ([(h, .inr (0, [.ref g, .int (nI z110)]))] : va_W), ([(g, .inl (cy 3, 6, (.inr (.inr (.inr (.inr (q_rf L19)))))))] : va_W), plW cy L19, stW cy sa (q_aw (nI (y % 4096)) n v 12)]) (r := 1) hx hb hr hlocks hAe hP hD hS (by subst ev17; exact ⟨L19, z110, rfl, rfl, f11, f12, f13⟩) dL_sends_205
  refine wl_icmp_ne (tgt := 131) hx hb (y % 2) 1 dL_sends_123 (by decide) (by omega) (by omega) (fun c16 => ?_) (fun c16 => ?_)
  · refine lv_iconst (v := 4) hx hb dL_sends_131 (by decide) ?_
    refine lv_goto (tgt := 141) hx hb dL_sends_132 (by decide) ?_
    exact K18 _ _ _ 4 (by rw [if_neg c16]) hP hD hS (lv_sub hl [0, 1, 2, 3, 4, 5] rfl)
  · refine lv_bipush (v := 8) hx hb dL_sends_126 (by decide) ?_
    refine lv_goto (tgt := 141) hx hb dL_sends_128 (by decide) ?_
    exact K18 _ _ _ 8 (by rw [if_pos c16]) hP hD hS (lv_sub hl [0, 1, 2, 3, 4, 5] rfl)
set_option maxHeartbeats 4000000 in
set_option maxRecDepth 100000 in
theorem m_L_sendsWF (l : Launch) (D : va_G) (cy : Nat → ClassId) (x : Nat) (sa ja ta : Nat → Nat) (h q : Nat) (g : Nat) (L : HsL) (z : Nat) (v : Nat → Nat → Int32) (n y : Nat) (sz : Nat) (hz : z ≤ L.length) (hL : L.length ≤ 6) (hy : y < 2 ^ 31) (hn : v 7 0 = nI n) (hn2 : n ≤ 120) (hf : ¬ n + 12 ≤ 120) : Met l yL_sends wsL_sends ({ frames := 4, cells := 8, slots := 176, locals := 89 } : Room) (wl_ic D cy (wl_T9 (va_A ([([(x, .inr (4, [.ref (sa 0), .ref (ja 0), .ref (ta 0), .ref h, .ref q]))] : va_W), ([(h, .inr (0, [.ref g, .int (nI z)]))] : va_W), ([(g, .inl (cy 3, 6, (.inr (.inr (.inr (.inr (q_rf L)))))))] : va_W), plW cy L, stW cy sa v] : List va_W).flatten sz)) [([(x, .inr (4, [.ref (sa 0), .ref (ja 0), .ref (ta 0), .ref h, .ref q]))] : va_W), ([(h, .inr (0, [.ref g, .int (nI z)]))] : va_W), ([(g, .inl (cy 3, 6, (.inr (.inr (.inr (.inr (q_rf L)))))))] : va_W), plW cy L, stW cy sa v] sz [.ref x, .int (nI y), .int (nI 1)]) (va_Qi (fun (r : Int32) (bs : List va_W) => ∃ (L1 : HsL) (z1 : Nat), r = 1 ∧ bs = [([(x, .inr (4, [.ref (sa 0), .ref (ja 0), .ref (ta 0), .ref h, .ref q]))] : va_W), ([(h, .inr (0, [.ref g, .int (nI z1)]))] : va_W), ([(g, .inl (cy 3, 6, (.inr (.inr (.inr (.inr (q_rf L1)))))))] : va_W), plW cy L1, stW cy sa (q_rfu v)] ∧ z1 ≤ L1.length ∧ L1.length ≤ 6 ∧ (L1.take z1).map Prod.snd = q_push ((L.take z).map Prod.snd) v) (wl_ib D [([(x, .inr (4, [.ref (sa 0), .ref (ja 0), .ref (ta 0), .ref h, .ref q]))] : va_W), ([(h, .inr (0, [.ref g, .int (nI z)]))] : va_W), ([(g, .inl (cy 3, 6, (.inr (.inr (.inr (.inr (q_rf L)))))))] : va_W), plW cy L, stW cy sa v] sz) (va_A ([([(x, .inr (4, [.ref (sa 0), .ref (ja 0), .ref (ta 0), .ref h, .ref q]))] : va_W), ([(h, .inr (0, [.ref g, .int (nI z)]))] : va_W), ([(g, .inl (cy 3, 6, (.inr (.inr (.inr (.inr (q_rf L)))))))] : va_W), plW cy L, stW cy sa v] : List va_W).flatten sz)) 8 176 (va_A ([([(x, .inr (4, [.ref (sa 0), .ref (ja 0), .ref (ta 0), .ref h, .ref q]))] : va_W), ([(h, .inr (0, [.ref g, .int (nI z)]))] : va_W), ([(g, .inl (cy 3, 6, (.inr (.inr (.inr (.inr (q_rf L)))))))] : va_W), plW cy L, stW cy sa v] : List va_W).flatten sz) := by
  refine wl_ofI (cc := cL_sends) (maxL := 9) (ret := (some .int)) (by decide) rfl (Nat.le_of_ble_eq_true rfl) ?_
  intro p e s m below meth c ls A hx hb hr hts hown hlocks hml hnm hsz hAe hP hK hD hX hA hS hl
  rw [hAe] at hX
  have hl : lv_has ls 9 [(0, .ref x), (1, .int (nI y)), (2, .int (nI 1))] := hl
  refine lv_aload_n hx hb dL_sends_0 rfl (lv_at hl 0 rfl) ?_
  refine lv_iconst (v := 0) hx hb dL_sends_1 (by decide) ?_
  refine wl_pV (As := [.int 0]) (rest := []) ⟨hx, hb, hml, hown, hts⟩ (m_X4_cnt0n l D cy x sa ja ta h q v z g n hn) (cwV 1 hts gL_sends_X4_count rfl rfl rfl (by decide +kernel) ⟨Nat.le_of_ble_eq_true rfl, Nat.le_of_ble_eq_true rfl⟩) hK hP [0, 4, 1] rfl rfl rfl rfl rfl rfl hl.1 rfl (Nat.le_of_ble_eq_true rfl) dL_sends_2 ⟨Nat.le_of_ble_eq_true rfl, Nat.le_of_ble_eq_true rfl⟩ (fun r1 er1 => ?_)
  have er1 : r1 = nI n := er1
  subst er1
  refine lv_istore_n (lv' := [(3, .int (nI n)), (0, .ref x), (1, .int (nI y)), (2, .int (nI 1))]) hx hb dL_sends_5 rfl hl (by decide) rfl (fun ls hl => ?_)
  refine lv_aload_n hx hb dL_sends_6 rfl (lv_at hl 1 rfl) ?_
  refine lv_iconst (v := 2) hx hb dL_sends_7 (by decide) ?_
  refine wl_pV (As := [.int 2]) (rest := []) ⟨hx, hb, hml, hown, hts⟩ (m_X4_cnt2 l D cy x sa ja ta h q v z g ) (cwV 1 hts gL_sends_X4_count rfl rfl rfl (by decide +kernel) ⟨Nat.le_of_ble_eq_true rfl, Nat.le_of_ble_eq_true rfl⟩) hK hP [0, 4, 1] rfl rfl rfl rfl rfl rfl hl.1 rfl (Nat.le_of_ble_eq_true rfl) dL_sends_8 ⟨Nat.le_of_ble_eq_true rfl, Nat.le_of_ble_eq_true rfl⟩ (fun r2 er2 => ?_)
  have er2 : r2 = v 7 2 + v 7 3 + v 7 4 + v 7 0 := er2
  subst er2
  refine lv_istore (lv' := [(4, .int (v 7 2 + v 7 3 + v 7 4 + v 7 0)), (3, .int (nI n)), (0, .ref x), (1, .int (nI y)), (2, .int (nI 1))]) hx hb dL_sends_11 hl (by decide) rfl (fun ls hl => ?_)
  refine lv_aload_n hx hb dL_sends_13 rfl (lv_at hl 2 rfl) ?_
  refine lv_bipush (v := 9) hx hb dL_sends_14 (by decide) ?_
  refine wl_pV (As := [.int 9]) (rest := []) ⟨hx, hb, hml, hown, hts⟩ (m_X4_cnt9 l D cy x sa ja ta h q v z g ) (cwV 1 hts gL_sends_X4_count rfl rfl rfl (by decide +kernel) ⟨Nat.le_of_ble_eq_true rfl, Nat.le_of_ble_eq_true rfl⟩) hK hP [0, 4, 1] rfl rfl rfl rfl rfl rfl hl.1 rfl (Nat.le_of_ble_eq_true rfl) dL_sends_16 ⟨Nat.le_of_ble_eq_true rfl, Nat.le_of_ble_eq_true rfl⟩ (fun r3 er3 => ?_)
  have er3 : r3 = v 7 5 := er3
  subst er3
  refine lv_istore (lv' := [(5, .int (v 7 5)), (4, .int (v 7 2 + v 7 3 + v 7 4 + v 7 0)), (3, .int (nI n)), (0, .ref x), (1, .int (nI y)), (2, .int (nI 1))]) hx hb dL_sends_19 hl (by decide) rfl (fun ls hl => ?_)
  refine lv_iload_n hx hb dL_sends_21 rfl (lv_at hl 5 rfl) ?_
  refine wl_if_eq (tgt := 30) hx hb 1 dL_sends_22 (by decide) (by omega) (fun c4 => absurd c4 (by decide)) (fun c4 => ?_)
  refine lv_bipush (v := 12) hx hb dL_sends_25 (by decide) ?_
  refine lv_goto (tgt := 31) hx hb dL_sends_27 (by decide) ?_
  refine lv_istore (lv' := [(6, .int 12), (5, .int (v 7 5)), (4, .int (v 7 2 + v 7 3 + v 7 4 + v 7 0)), (3, .int (nI n)), (0, .ref x), (1, .int (nI y)), (2, .int (nI 1))]) hx hb dL_sends_31 hl (by decide) rfl (fun ls hl => ?_)
  refine lv_iload_n hx hb dL_sends_33 rfl (lv_at hl 6 rfl) ?_
  refine wl_if_eq (tgt := 49) hx hb 1 dL_sends_34 (by decide) (by omega) (fun c5 => absurd c5 (by decide)) (fun c5 => ?_)
  refine lv_aload_n hx hb dL_sends_37 rfl (lv_at hl 4 rfl) ?_
  refine lv_iload_n hx hb dL_sends_38 rfl (lv_at hl 5 rfl) ?_
  refine lv_sipush (v := 4096) hx hb dL_sends_39 (by decide) ?_
  refine lv_irem hx hb dL_sends_42 (by decide) ?_
  refine wl_top (y := nI (y % 4096)) (pk_rem (a := y) (d := 4096) (by omega) (by omega) (by omega)) ?_
  refine wl_iV (As := [.int (nI (y % 4096))]) (rest := []) (bsC := [([(x, .inr (4, [.ref (sa 0), .ref (ja 0), .ref (ta 0), .ref h, .ref q]))] : va_W), ([(h, .inr (0, [.ref g, .int (nI z)]))] : va_W), ([(g, .inl (cy 3, 6, (.inr (.inr (.inr (.inr (q_rf L)))))))] : va_W), plW cy L, stW cy sa v]) (bsR := []) ⟨hx, hb, hml, hown, hts⟩ (m_X4_sendF l D cy x sa ja ta h q g L z v (y % 4096) n s.heap.size hz hL (by omega) hn (by omega) hf) (cwV 1 hts gL_sends_X4_send rfl rfl rfl (by decide +kernel) ⟨Nat.le_of_ble_eq_true rfl, Nat.le_of_ble_eq_true rfl⟩) wl_E_b (fun U _ hW => wl_E_w hW hX.1.1) hK hP hD hS hA rfl rfl rfl rfl rfl hl.1 rfl (Nat.le_of_ble_eq_true rfl) dL_sends_43 ⟨Nat.le_of_ble_eq_true rfl, Nat.le_of_ble_eq_true rfl⟩ (fun r6 bs7 H locs e8 _ _ hP hD hS => ?_)
  obtain ⟨L19, z110, er6, e8, f11, f12, f13⟩ := e8
  have e8 : bs7 = [([(x, .inr (4, [.ref (sa 0), .ref (ja 0), .ref (ta 0), .ref h, .ref q]))] : va_W), ([(h, .inr (0, [.ref g, .int (nI z110)]))] : va_W), ([(g, .inl (cy 3, 6, (.inr (.inr (.inr (.inr (q_rf L19)))))))] : va_W), plW cy L19, stW cy sa (q_rfu v)] := e8
  subst e8
  have er6 : r6 = -1 := er6
  subst er6
  refine W.widen (k := 8) (n := 176) (Nat.le_refl _) (Nat.le_refl _) ?_
  have hP : va_P D vwCl ([([(x, .inr (4, [.ref (sa 0), .ref (ja 0), .ref (ta 0), .ref h, .ref q]))] : va_W), ([(h, .inr (0, [.ref g, .int (nI z110)]))] : va_W), ([(g, .inl (cy 3, 6, (.inr (.inr (.inr (.inr (q_rf L19)))))))] : va_W), plW cy L19, stW cy sa (q_rfu v)] : List va_W).flatten H := hP
  have hD : va_D A ([([(x, .inr (4, [.ref (sa 0), .ref (ja 0), .ref (ta 0), .ref h, .ref q]))] : va_W), ([(h, .inr (0, [.ref g, .int (nI z110)]))] : va_W), ([(g, .inl (cy 3, 6, (.inr (.inr (.inr (.inr (q_rf L19)))))))] : va_W), plW cy L19, stW cy sa (q_rfu v)] : List va_W).flatten := hD
  refine lv_goto (tgt := 59) hx hb dL_sends_46 (by decide) ?_
  refine lv_istore (lv' := [(7, .int (-1)), (6, .int 12), (5, .int (v 7 5)), (4, .int (v 7 2 + v 7 3 + v 7 4 + v 7 0)), (3, .int (nI n)), (0, .ref x), (1, .int (nI y)), (2, .int (nI 1))]) hx hb dL_sends_59 hl (by decide) rfl (fun ls hl => ?_)
  refine lv_iload_n hx hb dL_sends_61 rfl (lv_at hl 4 rfl) ?_
  refine lv_iload hx hb dL_sends_62 (lv_at hl 1 rfl) ?_
  refine lv_iadd hx hb dL_sends_64 ?_
  refine wl_top (y := nI (n + 12)) (nI_add n 12) ?_
  refine lv_bipush (v := 120) hx hb dL_sends_65 (by decide) ?_
  refine wl_icmp_le (tgt := 115) hx hb (n + 12) 120 dL_sends_67 (by decide) (by omega) (by omega) (fun c14 => absurd c14 (by omega)) (fun c14 => ?_)
  refine lv_iload hx hb dL_sends_70 (lv_at hl 0 rfl) ?_
  refine lv_iconst (v := (-1)) hx hb dL_sends_72 (by decide) ?_
  refine lv_icmp_ne (tgt := 112) hx hb dL_sends_73 (by decide) (fun c15 => absurd rfl c15) (fun c15 => ?_)
  refine lv_aload_n hx hb dL_sends_76 rfl (lv_at hl 5 rfl) ?_
  refine lv_iconst (v := 0) hx hb dL_sends_77 (by decide) ?_
  refine wl_pV (As := [.int 0]) (rest := []) ⟨hx, hb, hml, hown, hts⟩ (m_X4_cnt0n l D cy x sa ja ta h q (q_rfu v) z110 g n hn) (cwV 1 hts gL_sends_X4_count rfl rfl rfl (by decide +kernel) ⟨Nat.le_of_ble_eq_true rfl, Nat.le_of_ble_eq_true rfl⟩) hK hP [0, 4, 1] rfl rfl rfl rfl rfl rfl hl.1 rfl (Nat.le_of_ble_eq_true rfl) dL_sends_78 ⟨Nat.le_of_ble_eq_true rfl, Nat.le_of_ble_eq_true rfl⟩ (fun r16 er16 => ?_)
  have er16 : r16 = nI n := er16
  subst er16
  refine lv_iload_n hx hb dL_sends_81 rfl (lv_at hl 4 rfl) ?_
  refine wl_icmp_ne (tgt := 112) hx hb n n dL_sends_82 (by decide) (by omega) (by omega) (fun c17 => absurd c17 (by omega)) (fun c17 => ?_)
  refine lv_aload_n hx hb dL_sends_85 rfl (lv_at hl 5 rfl) ?_
  refine lv_iconst (v := 2) hx hb dL_sends_86 (by decide) ?_
  refine wl_pV (As := [.int 2]) (rest := []) ⟨hx, hb, hml, hown, hts⟩ (m_X4_cnt2 l D cy x sa ja ta h q (q_rfu v) z110 g ) (cwV 1 hts gL_sends_X4_count rfl rfl rfl (by decide +kernel) ⟨Nat.le_of_ble_eq_true rfl, Nat.le_of_ble_eq_true rfl⟩) hK hP [0, 4, 1] rfl rfl rfl rfl rfl rfl hl.1 rfl (Nat.le_of_ble_eq_true rfl) dL_sends_87 ⟨Nat.le_of_ble_eq_true rfl, Nat.le_of_ble_eq_true rfl⟩ (fun r18 er18 => ?_)
  have er18 : r18 = (q_rfu v) 7 2 + (q_rfu v) 7 3 + (q_rfu v) 7 4 + (q_rfu v) 7 0 := er18
  subst er18
  refine lv_iload hx hb dL_sends_90 (lv_at hl 3 rfl) ?_
  refine lv_icmp_ne (tgt := 112) hx hb dL_sends_92 (by decide) (fun c19 => absurd rfl c19) (fun c19 => ?_)
  refine lv_aload_n hx hb dL_sends_95 rfl (lv_at hl 5 rfl) ?_
  refine lv_bipush (v := 9) hx hb dL_sends_96 (by decide) ?_
  refine wl_pV (As := [.int 9]) (rest := []) ⟨hx, hb, hml, hown, hts⟩ (m_X4_cnt9 l D cy x sa ja ta h q (q_rfu v) z110 g ) (cwV 1 hts gL_sends_X4_count rfl rfl rfl (by decide +kernel) ⟨Nat.le_of_ble_eq_true rfl, Nat.le_of_ble_eq_true rfl⟩) hK hP [0, 4, 1] rfl rfl rfl rfl rfl rfl hl.1 rfl (Nat.le_of_ble_eq_true rfl) dL_sends_98 ⟨Nat.le_of_ble_eq_true rfl, Nat.le_of_ble_eq_true rfl⟩ (fun r20 er20 => ?_)
  have er20 : r20 = (q_rfu v) 7 5 := er20
  subst er20
  refine lv_iload hx hb dL_sends_101 (lv_at hl 2 rfl) ?_
  refine lv_iconst (v := 1) hx hb dL_sends_103 (by decide) ?_
  refine lv_iadd hx hb dL_sends_104 ?_
  refine lv_icmp_ne (tgt := 112) hx hb dL_sends_105 (by decide) (fun c21 => absurd rfl c21) (fun c21 => ?_)
  refine lv_iconst (v := 1) hx hb dL_sends_108 (by decide) ?_
  refine lv_goto (tgt := 114) hx hb dL_sends_109 (by decide) ?_
  exact wl_Ri (bs := [([(x, .inr (4, [.ref (sa 0), .ref (ja 0), .ref (ta 0), .ref h, .ref q]))] : va_W), ([(h, .inr (0, [.ref g, .int (nI z110)]))] : va_W), ([(g, .inl (cy 3, 6, (.inr (.inr (.inr (.inr (q_rf L19)))))))] : va_W), plW cy L19, stW cy sa (q_rfu v)]) (r := 1) hx hb hr hlocks hAe hP hD hS (by exact ⟨L19, z110, rfl, rfl, f11, f12, f13⟩) dL_sends_114
set_option maxHeartbeats 4000000 in
set_option maxRecDepth 100000 in
theorem m_L_sendsP (l : Launch) (D : va_G) (cy : Nat → ClassId) (x : Nat) (sa ja ta : Nat → Nat) (h q : Nat) (g : Nat) (L : HsL) (z : Nat) (v : Nat → Nat → Int32) (n y : Nat) (sz : Nat) (hz : z ≤ L.length) (hL : L.length ≤ 6) (hy : y < 2 ^ 31) (hn : v 7 0 = nI n) (hr : n < 120) : Met l yL_sends wsL_sends ({ frames := 4, cells := 8, slots := 176, locals := 89 } : Room) (wl_ic D cy (wl_T9 (va_A ([([(x, .inr (4, [.ref (sa 0), .ref (ja 0), .ref (ta 0), .ref h, .ref q]))] : va_W), ([(h, .inr (0, [.ref g, .int (nI z)]))] : va_W), ([(g, .inl (cy 3, 6, (.inr (.inr (.inr (.inr (q_rf L)))))))] : va_W), plW cy L, stW cy sa v] : List va_W).flatten sz)) [([(x, .inr (4, [.ref (sa 0), .ref (ja 0), .ref (ta 0), .ref h, .ref q]))] : va_W), ([(h, .inr (0, [.ref g, .int (nI z)]))] : va_W), ([(g, .inl (cy 3, 6, (.inr (.inr (.inr (.inr (q_rf L)))))))] : va_W), plW cy L, stW cy sa v] sz [.ref x, .int (nI y), .int (nI 0)]) (va_Qi (fun (r : Int32) (bs : List va_W) => ∃ (L1 : HsL) (z1 : Nat), r = 1 ∧ bs = [([(x, .inr (4, [.ref (sa 0), .ref (ja 0), .ref (ta 0), .ref h, .ref q]))] : va_W), ([(h, .inr (0, [.ref g, .int (nI z1)]))] : va_W), ([(g, .inl (cy 3, 6, (.inr (.inr (.inr (.inr (q_rf L1)))))))] : va_W), plW cy L1, stW cy sa (su (su v 6 n (nI (1 + (y % 20)))) 7 0 (nI (n + 1)))] ∧ z1 ≤ L1.length ∧ L1.length ≤ 6 ∧ (L1.take z1).map Prod.snd = q_push ((L.take z).map Prod.snd) v) (wl_ib D [([(x, .inr (4, [.ref (sa 0), .ref (ja 0), .ref (ta 0), .ref h, .ref q]))] : va_W), ([(h, .inr (0, [.ref g, .int (nI z)]))] : va_W), ([(g, .inl (cy 3, 6, (.inr (.inr (.inr (.inr (q_rf L)))))))] : va_W), plW cy L, stW cy sa v] sz) (va_A ([([(x, .inr (4, [.ref (sa 0), .ref (ja 0), .ref (ta 0), .ref h, .ref q]))] : va_W), ([(h, .inr (0, [.ref g, .int (nI z)]))] : va_W), ([(g, .inl (cy 3, 6, (.inr (.inr (.inr (.inr (q_rf L)))))))] : va_W), plW cy L, stW cy sa v] : List va_W).flatten sz)) 8 176 (va_A ([([(x, .inr (4, [.ref (sa 0), .ref (ja 0), .ref (ta 0), .ref h, .ref q]))] : va_W), ([(h, .inr (0, [.ref g, .int (nI z)]))] : va_W), ([(g, .inl (cy 3, 6, (.inr (.inr (.inr (.inr (q_rf L)))))))] : va_W), plW cy L, stW cy sa v] : List va_W).flatten sz) := by
  refine wl_ofI (cc := cL_sends) (maxL := 9) (ret := (some .int)) (by decide) rfl (Nat.le_of_ble_eq_true rfl) ?_
  intro p e s m below meth c ls A hx hb hr hts hown hlocks hml hnm hsz hAe hP hK hD hX hA hS hl
  rw [hAe] at hX
  have hl : lv_has ls 9 [(0, .ref x), (1, .int (nI y)), (2, .int (nI 0))] := hl
  refine lv_aload_n hx hb dL_sends_0 rfl (lv_at hl 0 rfl) ?_
  refine lv_iconst (v := 0) hx hb dL_sends_1 (by decide) ?_
  refine wl_pV (As := [.int 0]) (rest := []) ⟨hx, hb, hml, hown, hts⟩ (m_X4_cnt0n l D cy x sa ja ta h q v z g n hn) (cwV 1 hts gL_sends_X4_count rfl rfl rfl (by decide +kernel) ⟨Nat.le_of_ble_eq_true rfl, Nat.le_of_ble_eq_true rfl⟩) hK hP [0, 4, 1] rfl rfl rfl rfl rfl rfl hl.1 rfl (Nat.le_of_ble_eq_true rfl) dL_sends_2 ⟨Nat.le_of_ble_eq_true rfl, Nat.le_of_ble_eq_true rfl⟩ (fun r1 er1 => ?_)
  have er1 : r1 = nI n := er1
  subst er1
  refine lv_istore_n (lv' := [(3, .int (nI n)), (0, .ref x), (1, .int (nI y)), (2, .int (nI 0))]) hx hb dL_sends_5 rfl hl (by decide) rfl (fun ls hl => ?_)
  refine lv_aload_n hx hb dL_sends_6 rfl (lv_at hl 1 rfl) ?_
  refine lv_iconst (v := 2) hx hb dL_sends_7 (by decide) ?_
  refine wl_pV (As := [.int 2]) (rest := []) ⟨hx, hb, hml, hown, hts⟩ (m_X4_cnt2 l D cy x sa ja ta h q v z g ) (cwV 1 hts gL_sends_X4_count rfl rfl rfl (by decide +kernel) ⟨Nat.le_of_ble_eq_true rfl, Nat.le_of_ble_eq_true rfl⟩) hK hP [0, 4, 1] rfl rfl rfl rfl rfl rfl hl.1 rfl (Nat.le_of_ble_eq_true rfl) dL_sends_8 ⟨Nat.le_of_ble_eq_true rfl, Nat.le_of_ble_eq_true rfl⟩ (fun r2 er2 => ?_)
  have er2 : r2 = v 7 2 + v 7 3 + v 7 4 + v 7 0 := er2
  subst er2
  refine lv_istore (lv' := [(4, .int (v 7 2 + v 7 3 + v 7 4 + v 7 0)), (3, .int (nI n)), (0, .ref x), (1, .int (nI y)), (2, .int (nI 0))]) hx hb dL_sends_11 hl (by decide) rfl (fun ls hl => ?_)
  refine lv_aload_n hx hb dL_sends_13 rfl (lv_at hl 2 rfl) ?_
  refine lv_bipush (v := 9) hx hb dL_sends_14 (by decide) ?_
  refine wl_pV (As := [.int 9]) (rest := []) ⟨hx, hb, hml, hown, hts⟩ (m_X4_cnt9 l D cy x sa ja ta h q v z g ) (cwV 1 hts gL_sends_X4_count rfl rfl rfl (by decide +kernel) ⟨Nat.le_of_ble_eq_true rfl, Nat.le_of_ble_eq_true rfl⟩) hK hP [0, 4, 1] rfl rfl rfl rfl rfl rfl hl.1 rfl (Nat.le_of_ble_eq_true rfl) dL_sends_16 ⟨Nat.le_of_ble_eq_true rfl, Nat.le_of_ble_eq_true rfl⟩ (fun r3 er3 => ?_)
  have er3 : r3 = v 7 5 := er3
  subst er3
  refine lv_istore (lv' := [(5, .int (v 7 5)), (4, .int (v 7 2 + v 7 3 + v 7 4 + v 7 0)), (3, .int (nI n)), (0, .ref x), (1, .int (nI y)), (2, .int (nI 0))]) hx hb dL_sends_19 hl (by decide) rfl (fun ls hl => ?_)
  refine lv_iload_n hx hb dL_sends_21 rfl (lv_at hl 5 rfl) ?_
  refine wl_if_eq (tgt := 30) hx hb 0 dL_sends_22 (by decide) (by omega) (fun c4 => ?_) (fun c4 => absurd c4 (by decide))
  refine lv_iconst (v := 1) hx hb dL_sends_30 (by decide) ?_
  refine lv_istore (lv' := [(6, .int 1), (5, .int (v 7 5)), (4, .int (v 7 2 + v 7 3 + v 7 4 + v 7 0)), (3, .int (nI n)), (0, .ref x), (1, .int (nI y)), (2, .int (nI 0))]) hx hb dL_sends_31 hl (by decide) rfl (fun ls hl => ?_)
  refine lv_iload_n hx hb dL_sends_33 rfl (lv_at hl 6 rfl) ?_
  refine wl_if_eq (tgt := 49) hx hb 0 dL_sends_34 (by decide) (by omega) (fun c5 => ?_) (fun c5 => absurd c5 (by decide))
  refine lv_aload_n hx hb dL_sends_49 rfl (lv_at hl 4 rfl) ?_
  refine lv_iconst (v := 1) hx hb dL_sends_50 (by decide) ?_
  refine lv_iload_n hx hb dL_sends_51 rfl (lv_at hl 5 rfl) ?_
  refine lv_bipush (v := 20) hx hb dL_sends_52 (by decide) ?_
  refine lv_irem hx hb dL_sends_54 (by decide) ?_
  refine wl_top (y := nI (y % 20)) (pk_rem (a := y) (d := 20) (by omega) (by omega) (by omega)) ?_
  refine lv_iadd hx hb dL_sends_55 ?_
  refine wl_top (y := nI (1 + (y % 20))) (nI_add 1 (y % 20)) ?_
  refine wl_iV (As := [.int (nI (1 + (y % 20)))]) (rest := []) (bsC := [([(x, .inr (4, [.ref (sa 0), .ref (ja 0), .ref (ta 0), .ref h, .ref q]))] : va_W), ([(h, .inr (0, [.ref g, .int (nI z)]))] : va_W), ([(g, .inl (cy 3, 6, (.inr (.inr (.inr (.inr (q_rf L)))))))] : va_W), plW cy L, stW cy sa v]) (bsR := []) ⟨hx, hb, hml, hown, hts⟩ (m_X4_pulse l D cy x sa ja ta h q g L z v (1 + (y % 20)) n s.heap.size hz hL (by omega) hn (by omega)) (cwV 1 hts gL_sends_X4_pulse rfl rfl rfl (by decide +kernel) ⟨Nat.le_of_ble_eq_true rfl, Nat.le_of_ble_eq_true rfl⟩) wl_E_b (fun U _ hW => wl_E_w hW hX.1.1) hK hP hD hS hA rfl rfl rfl rfl rfl hl.1 rfl (Nat.le_of_ble_eq_true rfl) dL_sends_56 ⟨Nat.le_of_ble_eq_true rfl, Nat.le_of_ble_eq_true rfl⟩ (fun r6 bs7 H locs e8 _ _ hP hD hS => ?_)
  obtain ⟨L19, z110, er6, e8, f11, f12, f13⟩ := e8
  have e8 : bs7 = [([(x, .inr (4, [.ref (sa 0), .ref (ja 0), .ref (ta 0), .ref h, .ref q]))] : va_W), ([(h, .inr (0, [.ref g, .int (nI z110)]))] : va_W), ([(g, .inl (cy 3, 6, (.inr (.inr (.inr (.inr (q_rf L19)))))))] : va_W), plW cy L19, stW cy sa (su (su v 6 n (nI (1 + (y % 20)))) 7 0 (nI (n + 1)))] := e8
  subst e8
  have er6 : r6 = nI (n + 1) := er6
  subst er6
  refine W.widen (k := 8) (n := 176) (Nat.le_refl _) (Nat.le_refl _) ?_
  have hP : va_P D vwCl ([([(x, .inr (4, [.ref (sa 0), .ref (ja 0), .ref (ta 0), .ref h, .ref q]))] : va_W), ([(h, .inr (0, [.ref g, .int (nI z110)]))] : va_W), ([(g, .inl (cy 3, 6, (.inr (.inr (.inr (.inr (q_rf L19)))))))] : va_W), plW cy L19, stW cy sa (su (su v 6 n (nI (1 + (y % 20)))) 7 0 (nI (n + 1)))] : List va_W).flatten H := hP
  have hD : va_D A ([([(x, .inr (4, [.ref (sa 0), .ref (ja 0), .ref (ta 0), .ref h, .ref q]))] : va_W), ([(h, .inr (0, [.ref g, .int (nI z110)]))] : va_W), ([(g, .inl (cy 3, 6, (.inr (.inr (.inr (.inr (q_rf L19)))))))] : va_W), plW cy L19, stW cy sa (su (su v 6 n (nI (1 + (y % 20)))) 7 0 (nI (n + 1)))] : List va_W).flatten := hD
  refine lv_istore (lv' := [(7, .int (nI (n + 1))), (6, .int 1), (5, .int (v 7 5)), (4, .int (v 7 2 + v 7 3 + v 7 4 + v 7 0)), (3, .int (nI n)), (0, .ref x), (1, .int (nI y)), (2, .int (nI 0))]) hx hb dL_sends_59 hl (by decide) rfl (fun ls hl => ?_)
  refine lv_iload_n hx hb dL_sends_61 rfl (lv_at hl 4 rfl) ?_
  refine lv_iload hx hb dL_sends_62 (lv_at hl 1 rfl) ?_
  refine lv_iadd hx hb dL_sends_64 ?_
  refine wl_top (y := nI (n + 1)) (nI_add n 1) ?_
  refine lv_bipush (v := 120) hx hb dL_sends_65 (by decide) ?_
  refine wl_icmp_le (tgt := 115) hx hb (n + 1) 120 dL_sends_67 (by decide) (by omega) (by omega) (fun c14 => ?_) (fun c14 => absurd c14 (by omega))
  refine lv_iload_n hx hb dL_sends_115 rfl (lv_at hl 7 rfl) ?_
  refine wl_if_eq (tgt := 135) hx hb 0 dL_sends_116 (by decide) (by omega) (fun c15 => ?_) (fun c15 => absurd c15 (by decide))
  refine lv_iconst (v := 1) hx hb dL_sends_135 (by decide) ?_
  refine lv_iload_n hx hb dL_sends_136 rfl (lv_at hl 6 rfl) ?_
  refine lv_bipush (v := 20) hx hb dL_sends_137 (by decide) ?_
  refine lv_irem hx hb dL_sends_139 (by decide) ?_
  refine wl_top (y := nI (y % 20)) (pk_rem (a := y) (d := 20) (by omega) (by omega) (by omega)) ?_
  refine lv_iadd hx hb dL_sends_140 ?_
  refine wl_top (y := nI (1 + (y % 20))) (nI_add 1 (y % 20)) ?_
  refine lv_istore (lv' := [(8, .int (nI (1 + (y % 20)))), (7, .int (nI (n + 1))), (6, .int 1), (5, .int (v 7 5)), (4, .int (v 7 2 + v 7 3 + v 7 4 + v 7 0)), (3, .int (nI n)), (0, .ref x), (1, .int (nI y)), (2, .int (nI 0))]) hx hb dL_sends_141 hl (by decide) rfl (fun ls hl => ?_)
  refine lv_iload hx hb dL_sends_143 (lv_at hl 1 rfl) ?_
  refine lv_iload_n hx hb dL_sends_145 rfl (lv_at hl 5 rfl) ?_
  refine lv_iload hx hb dL_sends_146 (lv_at hl 2 rfl) ?_
  refine lv_iadd hx hb dL_sends_148 ?_
  refine wl_top (y := nI (n + 1)) (nI_add n 1) ?_
  refine wl_icmp_ne (tgt := 203) hx hb (n + 1) (n + 1) dL_sends_149 (by decide) (by omega) (by omega) (fun c16 => absurd c16 (by omega)) (fun c16 => ?_)
  refine lv_aload_n hx hb dL_sends_152 rfl (lv_at hl 6 rfl) ?_
  refine lv_iconst (v := 0) hx hb dL_sends_153 (by decide) ?_
  refine wl_pV (As := [.int 0]) (rest := []) ⟨hx, hb, hml, hown, hts⟩ (m_X4_cnt0n l D cy x sa ja ta h q (su (su v 6 n (nI (1 + (y % 20)))) 7 0 (nI (n + 1))) z110 g (n + 1) rfl) (cwV 1 hts gL_sends_X4_count rfl rfl rfl (by decide +kernel) ⟨Nat.le_of_ble_eq_true rfl, Nat.le_of_ble_eq_true rfl⟩) hK hP [0, 4, 1] rfl rfl rfl rfl rfl rfl hl.1 rfl (Nat.le_of_ble_eq_true rfl) dL_sends_154 ⟨Nat.le_of_ble_eq_true rfl, Nat.le_of_ble_eq_true rfl⟩ (fun r17 er17 => ?_)
  have er17 : r17 = nI (n + 1) := er17
  subst er17
  refine lv_iload hx hb dL_sends_157 (lv_at hl 1 rfl) ?_
  refine wl_icmp_ne (tgt := 203) hx hb (n + 1) (n + 1) dL_sends_159 (by decide) (by omega) (by omega) (fun c18 => absurd c18 (by omega)) (fun c18 => ?_)
  refine lv_aload_n hx hb dL_sends_162 rfl (lv_at hl 6 rfl) ?_
  refine lv_iconst (v := 2) hx hb dL_sends_163 (by decide) ?_
  refine wl_pV (As := [.int 2]) (rest := []) ⟨hx, hb, hml, hown, hts⟩ (m_X4_cnt2 l D cy x sa ja ta h q (su (su v 6 n (nI (1 + (y % 20)))) 7 0 (nI (n + 1))) z110 g ) (cwV 1 hts gL_sends_X4_count rfl rfl rfl (by decide +kernel) ⟨Nat.le_of_ble_eq_true rfl, Nat.le_of_ble_eq_true rfl⟩) hK hP [0, 4, 1] rfl rfl rfl rfl rfl rfl hl.1 rfl (Nat.le_of_ble_eq_true rfl) dL_sends_164 ⟨Nat.le_of_ble_eq_true rfl, Nat.le_of_ble_eq_true rfl⟩ (fun r19 er19 => ?_)
  have er19 : r19 = (su (su v 6 n (nI (1 + (y % 20)))) 7 0 (nI (n + 1))) 7 2 + (su (su v 6 n (nI (1 + (y % 20)))) 7 0 (nI (n + 1))) 7 3 + (su (su v 6 n (nI (1 + (y % 20)))) 7 0 (nI (n + 1))) 7 4 + (su (su v 6 n (nI (1 + (y % 20)))) 7 0 (nI (n + 1))) 7 0 := er19
  subst er19
  refine lv_iload hx hb dL_sends_167 (lv_at hl 4 rfl) ?_
  refine lv_iload hx hb dL_sends_169 (lv_at hl 2 rfl) ?_
  refine lv_iadd hx hb dL_sends_171 ?_
  refine lv_icmp_ne (tgt := 203) hx hb dL_sends_172 (by decide) (fun c20 => absurd (p_ap_sent hn) c20) (fun c20 => ?_)
  refine lv_aload_n hx hb dL_sends_175 rfl (lv_at hl 6 rfl) ?_
  refine lv_bipush (v := 9) hx hb dL_sends_176 (by decide) ?_
  refine wl_pV (As := [.int 9]) (rest := []) ⟨hx, hb, hml, hown, hts⟩ (m_X4_cnt9 l D cy x sa ja ta h q (su (su v 6 n (nI (1 + (y % 20)))) 7 0 (nI (n + 1))) z110 g ) (cwV 1 hts gL_sends_X4_count rfl rfl rfl (by decide +kernel) ⟨Nat.le_of_ble_eq_true rfl, Nat.le_of_ble_eq_true rfl⟩) hK hP [0, 4, 1] rfl rfl rfl rfl rfl rfl hl.1 rfl (Nat.le_of_ble_eq_true rfl) dL_sends_178 ⟨Nat.le_of_ble_eq_true rfl, Nat.le_of_ble_eq_true rfl⟩ (fun r21 er21 => ?_)
  have er21 : r21 = (su (su v 6 n (nI (1 + (y % 20)))) 7 0 (nI (n + 1))) 7 5 := er21
  subst er21
  refine lv_iload hx hb dL_sends_181 (lv_at hl 3 rfl) ?_
  refine lv_icmp_ne (tgt := 203) hx hb dL_sends_183 (by decide) (fun c22 => absurd rfl c22) (fun c22 => ?_)
  refine lv_aload_n hx hb dL_sends_186 rfl (lv_at hl 6 rfl) ?_
  refine lv_iload hx hb dL_sends_187 (lv_at hl 1 rfl) ?_
  refine lv_iconst (v := 1) hx hb dL_sends_189 (by decide) ?_
  refine lv_isub hx hb dL_sends_190 ?_
  refine wl_top (y := nI ((n + 1) - 1)) (pk_sub (a := n + 1) (b := 1) (by omega)) ?_
  refine wl_pV (As := [.int (nI ((n + 1) - 1))]) (rest := []) ⟨hx, hb, hml, hown, hts⟩ (m_X4_pulseAt l D cy x sa ja ta h q (su (su v 6 n (nI (1 + (y % 20)))) 7 0 (nI (n + 1))) ((n + 1) - 1) (n + 1) (by omega) rfl (by omega)) (cwV 1 hts gL_sends_X4_pulseAt rfl rfl rfl (by decide +kernel) ⟨Nat.le_of_ble_eq_true rfl, Nat.le_of_ble_eq_true rfl⟩) hK hP [0, 4] rfl rfl rfl rfl rfl rfl hl.1 rfl (Nat.le_of_ble_eq_true rfl) dL_sends_191 ⟨Nat.le_of_ble_eq_true rfl, Nat.le_of_ble_eq_true rfl⟩ (fun r23 er23 => ?_)
  have er23 : r23 = if ((n + 1) - 1) < (n + 1) then (su (su v 6 n (nI (1 + (y % 20)))) 7 0 (nI (n + 1))) 6 ((n + 1) - 1) else -1 := er23
  subst er23
  refine lv_iload hx hb dL_sends_194 (lv_at hl 0 rfl) ?_
  refine lv_icmp_ne (tgt := 203) hx hb dL_sends_196 (by decide) (fun c24 => absurd p_ap_last c24) (fun c24 => ?_)
  refine lv_iconst (v := 1) hx hb dL_sends_199 (by decide) ?_
  refine lv_goto (tgt := 205) hx hb dL_sends_200 (by decide) ?_
  exact wl_Ri (bs := [([(x, .inr (4, [.ref (sa 0), .ref (ja 0), .ref (ta 0), .ref h, .ref q]))] : va_W), ([(h, .inr (0, [.ref g, .int (nI z110)]))] : va_W), ([(g, .inl (cy 3, 6, (.inr (.inr (.inr (.inr (q_rf L19)))))))] : va_W), plW cy L19, stW cy sa (su (su v 6 n (nI (1 + (y % 20)))) 7 0 (nI (n + 1)))]) (r := 1) hx hb hr hlocks hAe hP hD hS (by exact ⟨L19, z110, rfl, rfl, f11, f12, f13⟩) dL_sends_205
set_option maxHeartbeats 4000000 in
set_option maxRecDepth 100000 in
theorem m_L_sendsPF (l : Launch) (D : va_G) (cy : Nat → ClassId) (x : Nat) (sa ja ta : Nat → Nat) (h q : Nat) (g : Nat) (L : HsL) (z : Nat) (v : Nat → Nat → Int32) (y : Nat) (sz : Nat) (hz : z ≤ L.length) (hL : L.length ≤ 6) (hy : y < 2 ^ 31) (hn : v 7 0 = nI 120) : Met l yL_sends wsL_sends ({ frames := 4, cells := 8, slots := 176, locals := 89 } : Room) (wl_ic D cy (wl_T9 (va_A ([([(x, .inr (4, [.ref (sa 0), .ref (ja 0), .ref (ta 0), .ref h, .ref q]))] : va_W), ([(h, .inr (0, [.ref g, .int (nI z)]))] : va_W), ([(g, .inl (cy 3, 6, (.inr (.inr (.inr (.inr (q_rf L)))))))] : va_W), plW cy L, stW cy sa v] : List va_W).flatten sz)) [([(x, .inr (4, [.ref (sa 0), .ref (ja 0), .ref (ta 0), .ref h, .ref q]))] : va_W), ([(h, .inr (0, [.ref g, .int (nI z)]))] : va_W), ([(g, .inl (cy 3, 6, (.inr (.inr (.inr (.inr (q_rf L)))))))] : va_W), plW cy L, stW cy sa v] sz [.ref x, .int (nI y), .int (nI 0)]) (va_Qi (fun (r : Int32) (bs : List va_W) => ∃ (L1 : HsL) (z1 : Nat), r = 1 ∧ bs = [([(x, .inr (4, [.ref (sa 0), .ref (ja 0), .ref (ta 0), .ref h, .ref q]))] : va_W), ([(h, .inr (0, [.ref g, .int (nI z1)]))] : va_W), ([(g, .inl (cy 3, 6, (.inr (.inr (.inr (.inr (q_rf L1)))))))] : va_W), plW cy L1, stW cy sa (q_rfu v)] ∧ z1 ≤ L1.length ∧ L1.length ≤ 6 ∧ (L1.take z1).map Prod.snd = q_push ((L.take z).map Prod.snd) v) (wl_ib D [([(x, .inr (4, [.ref (sa 0), .ref (ja 0), .ref (ta 0), .ref h, .ref q]))] : va_W), ([(h, .inr (0, [.ref g, .int (nI z)]))] : va_W), ([(g, .inl (cy 3, 6, (.inr (.inr (.inr (.inr (q_rf L)))))))] : va_W), plW cy L, stW cy sa v] sz) (va_A ([([(x, .inr (4, [.ref (sa 0), .ref (ja 0), .ref (ta 0), .ref h, .ref q]))] : va_W), ([(h, .inr (0, [.ref g, .int (nI z)]))] : va_W), ([(g, .inl (cy 3, 6, (.inr (.inr (.inr (.inr (q_rf L)))))))] : va_W), plW cy L, stW cy sa v] : List va_W).flatten sz)) 8 176 (va_A ([([(x, .inr (4, [.ref (sa 0), .ref (ja 0), .ref (ta 0), .ref h, .ref q]))] : va_W), ([(h, .inr (0, [.ref g, .int (nI z)]))] : va_W), ([(g, .inl (cy 3, 6, (.inr (.inr (.inr (.inr (q_rf L)))))))] : va_W), plW cy L, stW cy sa v] : List va_W).flatten sz) := by
  refine wl_ofI (cc := cL_sends) (maxL := 9) (ret := (some .int)) (by decide) rfl (Nat.le_of_ble_eq_true rfl) ?_
  intro p e s m below meth c ls A hx hb hr hts hown hlocks hml hnm hsz hAe hP hK hD hX hA hS hl
  rw [hAe] at hX
  have hl : lv_has ls 9 [(0, .ref x), (1, .int (nI y)), (2, .int (nI 0))] := hl
  refine lv_aload_n hx hb dL_sends_0 rfl (lv_at hl 0 rfl) ?_
  refine lv_iconst (v := 0) hx hb dL_sends_1 (by decide) ?_
  refine wl_pV (As := [.int 0]) (rest := []) ⟨hx, hb, hml, hown, hts⟩ (m_X4_cnt0n l D cy x sa ja ta h q v z g 120 hn) (cwV 1 hts gL_sends_X4_count rfl rfl rfl (by decide +kernel) ⟨Nat.le_of_ble_eq_true rfl, Nat.le_of_ble_eq_true rfl⟩) hK hP [0, 4, 1] rfl rfl rfl rfl rfl rfl hl.1 rfl (Nat.le_of_ble_eq_true rfl) dL_sends_2 ⟨Nat.le_of_ble_eq_true rfl, Nat.le_of_ble_eq_true rfl⟩ (fun r1 er1 => ?_)
  have er1 : r1 = nI 120 := er1
  subst er1
  refine lv_istore_n (lv' := [(3, .int (nI 120)), (0, .ref x), (1, .int (nI y)), (2, .int (nI 0))]) hx hb dL_sends_5 rfl hl (by decide) rfl (fun ls hl => ?_)
  refine lv_aload_n hx hb dL_sends_6 rfl (lv_at hl 1 rfl) ?_
  refine lv_iconst (v := 2) hx hb dL_sends_7 (by decide) ?_
  refine wl_pV (As := [.int 2]) (rest := []) ⟨hx, hb, hml, hown, hts⟩ (m_X4_cnt2 l D cy x sa ja ta h q v z g ) (cwV 1 hts gL_sends_X4_count rfl rfl rfl (by decide +kernel) ⟨Nat.le_of_ble_eq_true rfl, Nat.le_of_ble_eq_true rfl⟩) hK hP [0, 4, 1] rfl rfl rfl rfl rfl rfl hl.1 rfl (Nat.le_of_ble_eq_true rfl) dL_sends_8 ⟨Nat.le_of_ble_eq_true rfl, Nat.le_of_ble_eq_true rfl⟩ (fun r2 er2 => ?_)
  have er2 : r2 = v 7 2 + v 7 3 + v 7 4 + v 7 0 := er2
  subst er2
  refine lv_istore (lv' := [(4, .int (v 7 2 + v 7 3 + v 7 4 + v 7 0)), (3, .int (nI 120)), (0, .ref x), (1, .int (nI y)), (2, .int (nI 0))]) hx hb dL_sends_11 hl (by decide) rfl (fun ls hl => ?_)
  refine lv_aload_n hx hb dL_sends_13 rfl (lv_at hl 2 rfl) ?_
  refine lv_bipush (v := 9) hx hb dL_sends_14 (by decide) ?_
  refine wl_pV (As := [.int 9]) (rest := []) ⟨hx, hb, hml, hown, hts⟩ (m_X4_cnt9 l D cy x sa ja ta h q v z g ) (cwV 1 hts gL_sends_X4_count rfl rfl rfl (by decide +kernel) ⟨Nat.le_of_ble_eq_true rfl, Nat.le_of_ble_eq_true rfl⟩) hK hP [0, 4, 1] rfl rfl rfl rfl rfl rfl hl.1 rfl (Nat.le_of_ble_eq_true rfl) dL_sends_16 ⟨Nat.le_of_ble_eq_true rfl, Nat.le_of_ble_eq_true rfl⟩ (fun r3 er3 => ?_)
  have er3 : r3 = v 7 5 := er3
  subst er3
  refine lv_istore (lv' := [(5, .int (v 7 5)), (4, .int (v 7 2 + v 7 3 + v 7 4 + v 7 0)), (3, .int (nI 120)), (0, .ref x), (1, .int (nI y)), (2, .int (nI 0))]) hx hb dL_sends_19 hl (by decide) rfl (fun ls hl => ?_)
  refine lv_iload_n hx hb dL_sends_21 rfl (lv_at hl 5 rfl) ?_
  refine wl_if_eq (tgt := 30) hx hb 0 dL_sends_22 (by decide) (by omega) (fun c4 => ?_) (fun c4 => absurd c4 (by decide))
  refine lv_iconst (v := 1) hx hb dL_sends_30 (by decide) ?_
  refine lv_istore (lv' := [(6, .int 1), (5, .int (v 7 5)), (4, .int (v 7 2 + v 7 3 + v 7 4 + v 7 0)), (3, .int (nI 120)), (0, .ref x), (1, .int (nI y)), (2, .int (nI 0))]) hx hb dL_sends_31 hl (by decide) rfl (fun ls hl => ?_)
  refine lv_iload_n hx hb dL_sends_33 rfl (lv_at hl 6 rfl) ?_
  refine wl_if_eq (tgt := 49) hx hb 0 dL_sends_34 (by decide) (by omega) (fun c5 => ?_) (fun c5 => absurd c5 (by decide))
  refine lv_aload_n hx hb dL_sends_49 rfl (lv_at hl 4 rfl) ?_
  refine lv_iconst (v := 1) hx hb dL_sends_50 (by decide) ?_
  refine lv_iload_n hx hb dL_sends_51 rfl (lv_at hl 5 rfl) ?_
  refine lv_bipush (v := 20) hx hb dL_sends_52 (by decide) ?_
  refine lv_irem hx hb dL_sends_54 (by decide) ?_
  refine wl_top (y := nI (y % 20)) (pk_rem (a := y) (d := 20) (by omega) (by omega) (by omega)) ?_
  refine lv_iadd hx hb dL_sends_55 ?_
  refine wl_top (y := nI (1 + (y % 20))) (nI_add 1 (y % 20)) ?_
  refine wl_iV (As := [.int (nI (1 + (y % 20)))]) (rest := []) (bsC := [([(x, .inr (4, [.ref (sa 0), .ref (ja 0), .ref (ta 0), .ref h, .ref q]))] : va_W), ([(h, .inr (0, [.ref g, .int (nI z)]))] : va_W), ([(g, .inl (cy 3, 6, (.inr (.inr (.inr (.inr (q_rf L)))))))] : va_W), plW cy L, stW cy sa v]) (bsR := []) ⟨hx, hb, hml, hown, hts⟩ (m_X4_pulseF l D cy x sa ja ta h q g L z v (1 + (y % 20)) s.heap.size hz hL (by omega) hn) (cwV 1 hts gL_sends_X4_pulse rfl rfl rfl (by decide +kernel) ⟨Nat.le_of_ble_eq_true rfl, Nat.le_of_ble_eq_true rfl⟩) wl_E_b (fun U _ hW => wl_E_w hW hX.1.1) hK hP hD hS hA rfl rfl rfl rfl rfl hl.1 rfl (Nat.le_of_ble_eq_true rfl) dL_sends_56 ⟨Nat.le_of_ble_eq_true rfl, Nat.le_of_ble_eq_true rfl⟩ (fun r6 bs7 H locs e8 _ _ hP hD hS => ?_)
  obtain ⟨L19, z110, er6, e8, f11, f12, f13⟩ := e8
  have e8 : bs7 = [([(x, .inr (4, [.ref (sa 0), .ref (ja 0), .ref (ta 0), .ref h, .ref q]))] : va_W), ([(h, .inr (0, [.ref g, .int (nI z110)]))] : va_W), ([(g, .inl (cy 3, 6, (.inr (.inr (.inr (.inr (q_rf L19)))))))] : va_W), plW cy L19, stW cy sa (q_rfu v)] := e8
  subst e8
  have er6 : r6 = -1 := er6
  subst er6
  refine W.widen (k := 8) (n := 176) (Nat.le_refl _) (Nat.le_refl _) ?_
  have hP : va_P D vwCl ([([(x, .inr (4, [.ref (sa 0), .ref (ja 0), .ref (ta 0), .ref h, .ref q]))] : va_W), ([(h, .inr (0, [.ref g, .int (nI z110)]))] : va_W), ([(g, .inl (cy 3, 6, (.inr (.inr (.inr (.inr (q_rf L19)))))))] : va_W), plW cy L19, stW cy sa (q_rfu v)] : List va_W).flatten H := hP
  have hD : va_D A ([([(x, .inr (4, [.ref (sa 0), .ref (ja 0), .ref (ta 0), .ref h, .ref q]))] : va_W), ([(h, .inr (0, [.ref g, .int (nI z110)]))] : va_W), ([(g, .inl (cy 3, 6, (.inr (.inr (.inr (.inr (q_rf L19)))))))] : va_W), plW cy L19, stW cy sa (q_rfu v)] : List va_W).flatten := hD
  refine lv_istore (lv' := [(7, .int (-1)), (6, .int 1), (5, .int (v 7 5)), (4, .int (v 7 2 + v 7 3 + v 7 4 + v 7 0)), (3, .int (nI 120)), (0, .ref x), (1, .int (nI y)), (2, .int (nI 0))]) hx hb dL_sends_59 hl (by decide) rfl (fun ls hl => ?_)
  refine lv_iload_n hx hb dL_sends_61 rfl (lv_at hl 4 rfl) ?_
  refine lv_iload hx hb dL_sends_62 (lv_at hl 1 rfl) ?_
  refine lv_iadd hx hb dL_sends_64 ?_
  refine wl_top (y := nI 121) (nI_add 120 1) ?_
  refine lv_bipush (v := 120) hx hb dL_sends_65 (by decide) ?_
  refine wl_icmp_le (tgt := 115) hx hb 121 120 dL_sends_67 (by decide) (by omega) (by omega) (fun c14 => absurd c14 (by decide)) (fun c14 => ?_)
  refine lv_iload hx hb dL_sends_70 (lv_at hl 0 rfl) ?_
  refine lv_iconst (v := (-1)) hx hb dL_sends_72 (by decide) ?_
  refine lv_icmp_ne (tgt := 112) hx hb dL_sends_73 (by decide) (fun c15 => absurd rfl c15) (fun c15 => ?_)
  refine lv_aload_n hx hb dL_sends_76 rfl (lv_at hl 5 rfl) ?_
  refine lv_iconst (v := 0) hx hb dL_sends_77 (by decide) ?_
  refine wl_pV (As := [.int 0]) (rest := []) ⟨hx, hb, hml, hown, hts⟩ (m_X4_cnt0n l D cy x sa ja ta h q (q_rfu v) z110 g 120 hn) (cwV 1 hts gL_sends_X4_count rfl rfl rfl (by decide +kernel) ⟨Nat.le_of_ble_eq_true rfl, Nat.le_of_ble_eq_true rfl⟩) hK hP [0, 4, 1] rfl rfl rfl rfl rfl rfl hl.1 rfl (Nat.le_of_ble_eq_true rfl) dL_sends_78 ⟨Nat.le_of_ble_eq_true rfl, Nat.le_of_ble_eq_true rfl⟩ (fun r16 er16 => ?_)
  have er16 : r16 = nI 120 := er16
  subst er16
  refine lv_iload_n hx hb dL_sends_81 rfl (lv_at hl 4 rfl) ?_
  refine wl_icmp_ne (tgt := 112) hx hb 120 120 dL_sends_82 (by decide) (by omega) (by omega) (fun c17 => absurd c17 (by decide)) (fun c17 => ?_)
  refine lv_aload_n hx hb dL_sends_85 rfl (lv_at hl 5 rfl) ?_
  refine lv_iconst (v := 2) hx hb dL_sends_86 (by decide) ?_
  refine wl_pV (As := [.int 2]) (rest := []) ⟨hx, hb, hml, hown, hts⟩ (m_X4_cnt2 l D cy x sa ja ta h q (q_rfu v) z110 g ) (cwV 1 hts gL_sends_X4_count rfl rfl rfl (by decide +kernel) ⟨Nat.le_of_ble_eq_true rfl, Nat.le_of_ble_eq_true rfl⟩) hK hP [0, 4, 1] rfl rfl rfl rfl rfl rfl hl.1 rfl (Nat.le_of_ble_eq_true rfl) dL_sends_87 ⟨Nat.le_of_ble_eq_true rfl, Nat.le_of_ble_eq_true rfl⟩ (fun r18 er18 => ?_)
  have er18 : r18 = (q_rfu v) 7 2 + (q_rfu v) 7 3 + (q_rfu v) 7 4 + (q_rfu v) 7 0 := er18
  subst er18
  refine lv_iload hx hb dL_sends_90 (lv_at hl 3 rfl) ?_
  refine lv_icmp_ne (tgt := 112) hx hb dL_sends_92 (by decide) (fun c19 => absurd rfl c19) (fun c19 => ?_)
  refine lv_aload_n hx hb dL_sends_95 rfl (lv_at hl 5 rfl) ?_
  refine lv_bipush (v := 9) hx hb dL_sends_96 (by decide) ?_
  refine wl_pV (As := [.int 9]) (rest := []) ⟨hx, hb, hml, hown, hts⟩ (m_X4_cnt9 l D cy x sa ja ta h q (q_rfu v) z110 g ) (cwV 1 hts gL_sends_X4_count rfl rfl rfl (by decide +kernel) ⟨Nat.le_of_ble_eq_true rfl, Nat.le_of_ble_eq_true rfl⟩) hK hP [0, 4, 1] rfl rfl rfl rfl rfl rfl hl.1 rfl (Nat.le_of_ble_eq_true rfl) dL_sends_98 ⟨Nat.le_of_ble_eq_true rfl, Nat.le_of_ble_eq_true rfl⟩ (fun r20 er20 => ?_)
  have er20 : r20 = (q_rfu v) 7 5 := er20
  subst er20
  refine lv_iload hx hb dL_sends_101 (lv_at hl 2 rfl) ?_
  refine lv_iconst (v := 1) hx hb dL_sends_103 (by decide) ?_
  refine lv_iadd hx hb dL_sends_104 ?_
  refine lv_icmp_ne (tgt := 112) hx hb dL_sends_105 (by decide) (fun c21 => absurd rfl c21) (fun c21 => ?_)
  refine lv_iconst (v := 1) hx hb dL_sends_108 (by decide) ?_
  refine lv_goto (tgt := 114) hx hb dL_sends_109 (by decide) ?_
  exact wl_Ri (bs := [([(x, .inr (4, [.ref (sa 0), .ref (ja 0), .ref (ta 0), .ref h, .ref q]))] : va_W), ([(h, .inr (0, [.ref g, .int (nI z110)]))] : va_W), ([(g, .inl (cy 3, 6, (.inr (.inr (.inr (.inr (q_rf L19)))))))] : va_W), plW cy L19, stW cy sa (q_rfu v)]) (r := 1) hx hb hr hlocks hAe hP hD hS (by exact ⟨L19, z110, rfl, rfl, f11, f12, f13⟩) dL_sends_114
set_option maxHeartbeats 4000000 in
set_option maxRecDepth 100000 in
theorem m_L_gap (l : Launch) (D : va_G) (cy : Nat → ClassId) (x : Nat) (sa ja ta : Nat → Nat) (h q : Nat) (g : Nat) (L : HsL) (z : Nat) (w : Nat → Nat → Int32) (v : Nat → Nat → Int32) (n T : Nat) (sz : Nat) (hz : z ≤ L.length) (hL : L.length ≤ 6) (hok : p_ok v n T) : Met l yL_gap wsL_gap ({ frames := 6, cells := 8, slots := 176, locals := 132 } : Room) (wl_ic D cy (wl_T9 (va_A ([([(x, .inr (4, [.ref (sa 0), .ref (ja 0), .ref (ta 0), .ref h, .ref q]))] : va_W), ([(h, .inr (0, [.ref g, .int (nI z)]))] : va_W), ([(g, .inl (cy 3, 6, (.inr (.inr (.inr (.inr (q_rf L)))))))] : va_W), plW cy L, joW cy ja w, stW cy sa v] : List va_W).flatten sz)) [([(x, .inr (4, [.ref (sa 0), .ref (ja 0), .ref (ta 0), .ref h, .ref q]))] : va_W), ([(h, .inr (0, [.ref g, .int (nI z)]))] : va_W), ([(g, .inl (cy 3, 6, (.inr (.inr (.inr (.inr (q_rf L)))))))] : va_W), plW cy L, joW cy ja w, stW cy sa v] sz [.ref x]) (va_Qi (fun (r : Int32) (bs : List va_W) => ∃ (L1 : HsL) (z1 : Nat), r = 1 ∧ bs = [([(x, .inr (4, [.ref (sa 0), .ref (ja 0), .ref (ta 0), .ref h, .ref q]))] : va_W), ([(h, .inr (0, [.ref g, .int (nI z1)]))] : va_W), ([(g, .inl (cy 3, 6, (.inr (.inr (.inr (.inr (q_rf L1)))))))] : va_W), plW cy L1, joW cy ja (q_gt v w n 8), stW cy sa (q_gp v (q_gt v w n 8))] ∧ z1 ≤ L1.length ∧ L1.length ≤ 6 ∧ (L1.take z1).map Prod.snd = q_push ((L.take z).map Prod.snd) v) (wl_ib D [([(x, .inr (4, [.ref (sa 0), .ref (ja 0), .ref (ta 0), .ref h, .ref q]))] : va_W), ([(h, .inr (0, [.ref g, .int (nI z)]))] : va_W), ([(g, .inl (cy 3, 6, (.inr (.inr (.inr (.inr (q_rf L)))))))] : va_W), plW cy L, joW cy ja w, stW cy sa v] sz) (va_A ([([(x, .inr (4, [.ref (sa 0), .ref (ja 0), .ref (ta 0), .ref h, .ref q]))] : va_W), ([(h, .inr (0, [.ref g, .int (nI z)]))] : va_W), ([(g, .inl (cy 3, 6, (.inr (.inr (.inr (.inr (q_rf L)))))))] : va_W), plW cy L, joW cy ja w, stW cy sa v] : List va_W).flatten sz)) 8 176 (va_A ([([(x, .inr (4, [.ref (sa 0), .ref (ja 0), .ref (ta 0), .ref h, .ref q]))] : va_W), ([(h, .inr (0, [.ref g, .int (nI z)]))] : va_W), ([(g, .inl (cy 3, 6, (.inr (.inr (.inr (.inr (q_rf L)))))))] : va_W), plW cy L, joW cy ja w, stW cy sa v] : List va_W).flatten sz) := by
  refine wl_ofI (cc := cL_gap) (maxL := 7) (ret := (some .int)) (by decide) rfl (Nat.le_of_ble_eq_true rfl) ?_
  intro p e s m below meth c ls A hx hb hr hts hown hlocks hml hnm hsz hAe hP hK hD hX hA hS hl
  rw [hAe] at hX
  have hl : lv_has ls 7 [(0, .ref x)] := hl
  obtain ⟨⟨ct, hc1, hc2, hc3⟩, ⟨hG1, hG2, hG3⟩, g1, g2, g3, g4, g5, g6⟩ := p_gap (w := w) hok
  have hn := hok.2.1
  have hn2 := hok.1
  refine lv_aload_n hx hb dL_gap_0 rfl (lv_at hl 0 rfl) ?_
  refine lv_iconst (v := 0) hx hb dL_gap_1 (by decide) ?_
  refine wl_pV (As := [.int 0]) (rest := []) ⟨hx, hb, hml, hown, hts⟩ (m_X4_cnt0n l D cy x sa ja ta h q v z g n hn) (cwV 1 hts gL_gap_X4_count rfl rfl rfl (by decide +kernel) ⟨Nat.le_of_ble_eq_true rfl, Nat.le_of_ble_eq_true rfl⟩) hK hP [0, 5, 1] rfl rfl rfl rfl rfl rfl hl.1 rfl (Nat.le_of_ble_eq_true rfl) dL_gap_2 ⟨Nat.le_of_ble_eq_true rfl, Nat.le_of_ble_eq_true rfl⟩ (fun r1 er1 => ?_)
  have er1 : r1 = nI n := er1
  subst er1
  refine lv_istore_n (lv' := [(1, .int (nI n)), (0, .ref x)]) hx hb dL_gap_5 rfl hl (by decide) rfl (fun ls hl => ?_)
  refine lv_aload_n hx hb dL_gap_6 rfl (lv_at hl 1 rfl) ?_
  refine lv_iconst (v := 3) hx hb dL_gap_7 (by decide) ?_
  refine wl_pV (As := [.int 3]) (rest := []) ⟨hx, hb, hml, hown, hts⟩ (m_X4_cnt3 l D cy x sa ja ta h q v z g ) (cwV 1 hts gL_gap_X4_count rfl rfl rfl (by decide +kernel) ⟨Nat.le_of_ble_eq_true rfl, Nat.le_of_ble_eq_true rfl⟩) hK hP [0, 5, 1] rfl rfl rfl rfl rfl rfl hl.1 rfl (Nat.le_of_ble_eq_true rfl) dL_gap_8 ⟨Nat.le_of_ble_eq_true rfl, Nat.le_of_ble_eq_true rfl⟩ (fun r2 er2 => ?_)
  have er2 : r2 = v 7 2 := er2
  subst er2
  refine lv_istore_n (lv' := [(2, .int (v 7 2)), (1, .int (nI n)), (0, .ref x)]) hx hb dL_gap_11 rfl hl (by decide) rfl (fun ls hl => ?_)
  refine lv_aload_n hx hb dL_gap_12 rfl (lv_at hl 2 rfl) ?_
  refine lv_iconst (v := 4) hx hb dL_gap_13 (by decide) ?_
  refine wl_pV (As := [.int 4]) (rest := []) ⟨hx, hb, hml, hown, hts⟩ (m_X4_cnt4 l D cy x sa ja ta h q v z g ) (cwV 1 hts gL_gap_X4_count rfl rfl rfl (by decide +kernel) ⟨Nat.le_of_ble_eq_true rfl, Nat.le_of_ble_eq_true rfl⟩) hK hP [0, 5, 1] rfl rfl rfl rfl rfl rfl hl.1 rfl (Nat.le_of_ble_eq_true rfl) dL_gap_14 ⟨Nat.le_of_ble_eq_true rfl, Nat.le_of_ble_eq_true rfl⟩ (fun r3 er3 => ?_)
  have er3 : r3 = v 7 3 := er3
  subst er3
  refine lv_istore_n (lv' := [(3, .int (v 7 3)), (2, .int (v 7 2)), (1, .int (nI n)), (0, .ref x)]) hx hb dL_gap_17 rfl hl (by decide) rfl (fun ls hl => ?_)
  refine lv_aload_n hx hb dL_gap_18 rfl (lv_at hl 3 rfl) ?_
  refine lv_iconst (v := 1) hx hb dL_gap_19 (by decide) ?_
  refine wl_pV (As := [.int 1]) (rest := []) ⟨hx, hb, hml, hown, hts⟩ (m_X4_cnt1 l D cy x sa ja ta h q v z g ) (cwV 1 hts gL_gap_X4_count rfl rfl rfl (by decide +kernel) ⟨Nat.le_of_ble_eq_true rfl, Nat.le_of_ble_eq_true rfl⟩) hK hP [0, 5, 1] rfl rfl rfl rfl rfl rfl hl.1 rfl (Nat.le_of_ble_eq_true rfl) dL_gap_20 ⟨Nat.le_of_ble_eq_true rfl, Nat.le_of_ble_eq_true rfl⟩ (fun r4 er4 => ?_)
  have er4 : r4 = v 7 1 := er4
  subst er4
  refine lv_istore (lv' := [(4, .int (v 7 1)), (3, .int (v 7 3)), (2, .int (v 7 2)), (1, .int (nI n)), (0, .ref x)]) hx hb dL_gap_23 hl (by decide) rfl (fun ls hl => ?_)
  refine lv_aload_n hx hb dL_gap_25 rfl (lv_at hl 4 rfl) ?_
  refine wl_iV (As := []) (rest := []) (bsC := [([(x, .inr (4, [.ref (sa 0), .ref (ja 0), .ref (ta 0), .ref h, .ref q]))] : va_W), ([(h, .inr (0, [.ref g, .int (nI z)]))] : va_W), ([(g, .inl (cy 3, 6, (.inr (.inr (.inr (.inr (q_rf L)))))))] : va_W), plW cy L, joW cy ja w, stW cy sa v]) (bsR := []) ⟨hx, hb, hml, hown, hts⟩ (m_X4_gap l D cy x sa ja ta h q g L z w v n s.heap.size hz hL hn hn2) (cwV 0 hts gL_gap_X4_gap rfl rfl rfl (by decide +kernel) ⟨Nat.le_of_ble_eq_true rfl, Nat.le_of_ble_eq_true rfl⟩) wl_E_b (fun U _ hW => wl_E_w hW hX.1.1) hK hP hD hS hA rfl rfl rfl rfl rfl hl.1 rfl (Nat.le_of_ble_eq_true rfl) dL_gap_26 ⟨Nat.le_of_ble_eq_true rfl, Nat.le_of_ble_eq_true rfl⟩ (fun r5 bs6 H locs e7 _ _ hP hD hS => ?_)
  obtain ⟨L18, z19, er5, e7, f10, f11, f12⟩ := e7
  have e7 : bs6 = [([(x, .inr (4, [.ref (sa 0), .ref (ja 0), .ref (ta 0), .ref h, .ref q]))] : va_W), ([(h, .inr (0, [.ref g, .int (nI z19)]))] : va_W), ([(g, .inl (cy 3, 6, (.inr (.inr (.inr (.inr (q_rf L18)))))))] : va_W), plW cy L18, joW cy ja (q_gt v w n 8), stW cy sa (q_gp v (q_gt v w n 8))] := e7
  subst e7
  have er5 : r5 = q_lc v (q_gt v w n 8) 8 := er5
  subst er5
  refine W.widen (k := 8) (n := 176) (Nat.le_refl _) (Nat.le_refl _) ?_
  have hP : va_P D vwCl ([([(x, .inr (4, [.ref (sa 0), .ref (ja 0), .ref (ta 0), .ref h, .ref q]))] : va_W), ([(h, .inr (0, [.ref g, .int (nI z19)]))] : va_W), ([(g, .inl (cy 3, 6, (.inr (.inr (.inr (.inr (q_rf L18)))))))] : va_W), plW cy L18, joW cy ja (q_gt v w n 8), stW cy sa (q_gp v (q_gt v w n 8))] : List va_W).flatten H := hP
  have hD : va_D A ([([(x, .inr (4, [.ref (sa 0), .ref (ja 0), .ref (ta 0), .ref h, .ref q]))] : va_W), ([(h, .inr (0, [.ref g, .int (nI z19)]))] : va_W), ([(g, .inl (cy 3, 6, (.inr (.inr (.inr (.inr (q_rf L18)))))))] : va_W), plW cy L18, joW cy ja (q_gt v w n 8), stW cy sa (q_gp v (q_gt v w n 8))] : List va_W).flatten := hD
  refine wl_top (y := nI ct) hc3 ?_
  refine lv_istore (lv' := [(5, .int (nI ct)), (4, .int (v 7 1)), (3, .int (v 7 3)), (2, .int (v 7 2)), (1, .int (nI n)), (0, .ref x)]) hx hb dL_gap_29 hl (by decide) rfl (fun ls hl => ?_)
  refine lv_aload_n hx hb dL_gap_31 rfl (lv_at hl 5 rfl) ?_
  refine lv_iconst (v := 3) hx hb dL_gap_32 (by decide) ?_
  refine wl_pV (As := [.int 3]) (rest := []) ⟨hx, hb, hml, hown, hts⟩ (m_X4_cnt3 l D cy x sa ja ta h q (q_gp v (q_gt v w n 8)) z19 g ) (cwV 1 hts gL_gap_X4_count rfl rfl rfl (by decide +kernel) ⟨Nat.le_of_ble_eq_true rfl, Nat.le_of_ble_eq_true rfl⟩) hK hP [0, 5, 1] rfl rfl rfl rfl rfl rfl hl.1 rfl (Nat.le_of_ble_eq_true rfl) dL_gap_33 ⟨Nat.le_of_ble_eq_true rfl, Nat.le_of_ble_eq_true rfl⟩ (fun r13 er13 => ?_)
  have er13 : r13 = (q_gp v (q_gt v w n 8)) 7 2 := er13
  subst er13
  refine lv_iload_n hx hb dL_gap_36 rfl (lv_at hl 3 rfl) ?_
  refine lv_isub hx hb dL_gap_37 ?_
  refine wl_top (y := nI (q_gk v n 8)) g1 ?_
  refine lv_istore (lv' := [(6, .int (nI (q_gk v n 8))), (5, .int (nI ct)), (4, .int (v 7 1)), (3, .int (v 7 3)), (2, .int (v 7 2)), (1, .int (nI n)), (0, .ref x)]) hx hb dL_gap_38 hl (by decide) rfl (fun ls hl => ?_)
  refine lv_iload hx hb dL_gap_40 (lv_at hl 1 rfl) ?_
  refine wl_if_lt (tgt := 125) hx hb ct dL_gap_42 (by decide) (by omega) ?_
  refine lv_iload hx hb dL_gap_45 (lv_at hl 1 rfl) ?_
  refine lv_bipush (v := 9) hx hb dL_gap_47 (by decide) ?_
  refine wl_icmp_ge (tgt := 125) hx hb ct 9 dL_gap_49 (by decide) (by omega) (by omega) (fun c15 => absurd c15 (by omega)) (fun c15 => ?_)
  refine lv_bipush (v := 12) hx hb dL_gap_52 (by decide) ?_
  refine lv_iload hx hb dL_gap_54 (lv_at hl 1 rfl) ?_
  refine lv_imul hx hb dL_gap_56 ?_
  refine wl_top (y := nI (12 * ct)) (pk_mul 12 ct) ?_
  refine lv_iload hx hb dL_gap_57 (lv_at hl 0 rfl) ?_
  refine wl_icmp_gt (tgt := 125) hx hb (12 * ct) (q_gk v n 8) dL_gap_59 (by decide) (by omega) (by omega) (fun c16 => absurd c16 (by omega)) (fun c16 => ?_)
  refine lv_iload hx hb dL_gap_62 (lv_at hl 0 rfl) ?_
  refine lv_iload_n hx hb dL_gap_64 rfl (lv_at hl 5 rfl) ?_
  refine wl_icmp_gt (tgt := 125) hx hb (q_gk v n 8) n dL_gap_65 (by decide) (by omega) (by omega) (fun c17 => absurd c17 (by omega)) (fun c17 => ?_)
  refine lv_iload hx hb dL_gap_68 (lv_at hl 0 rfl) ?_
  refine lv_bipush (v := 12) hx hb dL_gap_70 (by decide) ?_
  refine lv_irem hx hb dL_gap_72 (by decide) ?_
  refine wl_top (y := nI ((q_gk v n 8) % 12)) (pk_rem (a := q_gk v n 8) (d := 12) (by omega) (by omega) (by omega)) ?_
  refine wl_if_ne (tgt := 125) hx hb ((q_gk v n 8) % 12) dL_gap_73 (by decide) (by omega) (fun c18 => absurd c18 (by omega)) (fun c18 => ?_)
  refine lv_aload_n hx hb dL_gap_76 rfl (lv_at hl 6 rfl) ?_
  refine lv_iconst (v := 4) hx hb dL_gap_77 (by decide) ?_
  refine wl_pV (As := [.int 4]) (rest := []) ⟨hx, hb, hml, hown, hts⟩ (m_X4_cnt4 l D cy x sa ja ta h q (q_gp v (q_gt v w n 8)) z19 g ) (cwV 1 hts gL_gap_X4_count rfl rfl rfl (by decide +kernel) ⟨Nat.le_of_ble_eq_true rfl, Nat.le_of_ble_eq_true rfl⟩) hK hP [0, 5, 1] rfl rfl rfl rfl rfl rfl hl.1 rfl (Nat.le_of_ble_eq_true rfl) dL_gap_78 ⟨Nat.le_of_ble_eq_true rfl, Nat.le_of_ble_eq_true rfl⟩ (fun r19 er19 => ?_)
  have er19 : r19 = (q_gp v (q_gt v w n 8)) 7 3 := er19
  subst er19
  refine lv_iload_n hx hb dL_gap_81 rfl (lv_at hl 3 rfl) ?_
  refine lv_iload_n hx hb dL_gap_82 rfl (lv_at hl 5 rfl) ?_
  refine lv_iadd hx hb dL_gap_83 ?_
  refine lv_iload hx hb dL_gap_84 (lv_at hl 0 rfl) ?_
  refine lv_isub hx hb dL_gap_86 ?_
  refine lv_icmp_ne (tgt := 125) hx hb dL_gap_87 (by decide) (fun c20 => absurd g2 c20) (fun c20 => ?_)
  refine lv_aload_n hx hb dL_gap_90 rfl (lv_at hl 6 rfl) ?_
  refine lv_iconst (v := 1) hx hb dL_gap_91 (by decide) ?_
  refine wl_pV (As := [.int 1]) (rest := []) ⟨hx, hb, hml, hown, hts⟩ (m_X4_cnt1 l D cy x sa ja ta h q (q_gp v (q_gt v w n 8)) z19 g ) (cwV 1 hts gL_gap_X4_count rfl rfl rfl (by decide +kernel) ⟨Nat.le_of_ble_eq_true rfl, Nat.le_of_ble_eq_true rfl⟩) hK hP [0, 5, 1] rfl rfl rfl rfl rfl rfl hl.1 rfl (Nat.le_of_ble_eq_true rfl) dL_gap_92 ⟨Nat.le_of_ble_eq_true rfl, Nat.le_of_ble_eq_true rfl⟩ (fun r21 er21 => ?_)
  have er21 : r21 = (q_gp v (q_gt v w n 8)) 7 1 := er21
  subst er21
  refine lv_iload hx hb dL_gap_95 (lv_at hl 2 rfl) ?_
  refine lv_iconst (v := 1) hx hb dL_gap_97 (by decide) ?_
  refine lv_iadd hx hb dL_gap_98 ?_
  refine lv_icmp_ne (tgt := 125) hx hb dL_gap_99 (by decide) (fun c22 => absurd g3 c22) (fun c22 => ?_)
  refine lv_aload_n hx hb dL_gap_102 rfl (lv_at hl 6 rfl) ?_
  refine lv_iconst (v := 0) hx hb dL_gap_103 (by decide) ?_
  refine wl_pV (As := [.int 0]) (rest := []) ⟨hx, hb, hml, hown, hts⟩ (m_X4_cnt0 l D cy x sa ja ta h q (q_gp v (q_gt v w n 8)) z19 g ) (cwV 1 hts gL_gap_X4_count rfl rfl rfl (by decide +kernel) ⟨Nat.le_of_ble_eq_true rfl, Nat.le_of_ble_eq_true rfl⟩) hK hP [0, 5, 1] rfl rfl rfl rfl rfl rfl hl.1 rfl (Nat.le_of_ble_eq_true rfl) dL_gap_104 ⟨Nat.le_of_ble_eq_true rfl, Nat.le_of_ble_eq_true rfl⟩ (fun r23 er23 => ?_)
  have er23 : r23 = (q_gp v (q_gt v w n 8)) 7 0 := er23
  subst er23
  refine lv_if_ne (tgt := 125) hx hb dL_gap_107 (by decide) (fun c24 => absurd g4 c24) (fun c24 => ?_)
  refine lv_aload_n hx hb dL_gap_110 rfl (lv_at hl 6 rfl) ?_
  refine lv_iconst (v := 0) hx hb dL_gap_111 (by decide) ?_
  refine lv_bipush (v := 7) hx hb dL_gap_112 (by decide) ?_
  refine wl_pV (As := [.int 0, .int 7]) (rest := []) ⟨hx, hb, hml, hown, hts⟩ (m_X4_lof7 l D cy x sa ja ta h q (q_gp v (q_gt v w n 8)) 0 (by omega)) (cwV 2 hts gL_gap_X4_lampOf rfl rfl rfl (by decide +kernel) ⟨Nat.le_of_ble_eq_true rfl, Nat.le_of_ble_eq_true rfl⟩) hK hP [0, 5] rfl rfl rfl rfl rfl rfl hl.1 rfl (Nat.le_of_ble_eq_true rfl) dL_gap_114 ⟨Nat.le_of_ble_eq_true rfl, Nat.le_of_ble_eq_true rfl⟩ (fun r25 er25 => ?_)
  have er25 : r25 = (q_gp v (q_gt v w n 8)) 4 0 := er25
  subst er25
  refine lv_iload_n hx hb dL_gap_117 rfl (lv_at hl 5 rfl) ?_
  refine lv_icmp_ne (tgt := 125) hx hb dL_gap_118 (by decide) (fun c26 => absurd g5 c26) (fun c26 => ?_)
  refine lv_iconst (v := 1) hx hb dL_gap_121 (by decide) ?_
  refine lv_goto (tgt := 127) hx hb dL_gap_122 (by decide) ?_
  exact wl_Ri (bs := [([(x, .inr (4, [.ref (sa 0), .ref (ja 0), .ref (ta 0), .ref h, .ref q]))] : va_W), ([(h, .inr (0, [.ref g, .int (nI z19)]))] : va_W), ([(g, .inl (cy 3, 6, (.inr (.inr (.inr (.inr (q_rf L18)))))))] : va_W), plW cy L18, joW cy ja (q_gt v w n 8), stW cy sa (q_gp v (q_gt v w n 8))]) (r := 1) hx hb hr hlocks hAe hP hD hS (by exact ⟨L18, z19, rfl, rfl, f10, f11, f12⟩) dL_gap_127
