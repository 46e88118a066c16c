/-! WireLamps: the hash -/
set_option maxHeartbeats 4000000 in
set_option maxRecDepth 100000 in
theorem m_X4_withLamps (l : Launch) (D : va_G) (cy : Nat → ClassId) (x : Nat) (sa ja ta : Nat → Nat) (h q : Nat) (w : Nat → Nat → Int32) (v : Nat → Nat → Int32) (n : Nat) (y : Int64) (sz : Nat) (hn : v 7 0 = nI n) (hn2 : n ≤ 120) : Met l yX4_withLamps wsX4_withLamps ({ frames := 4, cells := 0, slots := 0, locals := 94 } : Room) (wl_ic D cy (fun _ => True) [([(x, .inr (4, [.ref (sa 0), .ref (ja 0), .ref (ta 0), .ref h, .ref q]))] : va_W), joW cy ja w, stW cy sa v] sz [.ref x, .long y]) (va_Ql (fun (r : Int64) (bs : List va_W) => r = q_wl v (q_gt v w n 8) n y 8 ∧ bs = [([(x, .inr (4, [.ref (sa 0), .ref (ja 0), .ref (ta 0), .ref h, .ref q]))] : va_W), joW cy ja (q_gt v w n 8), stW cy sa v]) (wl_ib D [([(x, .inr (4, [.ref (sa 0), .ref (ja 0), .ref (ta 0), .ref h, .ref q]))] : va_W), joW cy ja w, stW cy sa v] sz) (va_A ([([(x, .inr (4, [.ref (sa 0), .ref (ja 0), .ref (ta 0), .ref h, .ref q]))] : va_W), joW cy ja w, stW cy sa v] : List va_W).flatten sz)) 0 0 (va_A ([([(x, .inr (4, [.ref (sa 0), .ref (ja 0), .ref (ta 0), .ref h, .ref q]))] : va_W), joW cy ja w, stW cy sa v] : List va_W).flatten sz) := by
  refine wl_ofI (cc := cX4_withLamps) (maxL := 7) (ret := (some .long)) (by decide) rfl (Nat.le_of_ble_eq_true rfl) ?_
  intro p e s m below meth c ls A hx hb hr hts hown hlocks hml hnm hsz hAe hP hK hD hX hA hS hl
  have hl : lv_has ls 7 [(0, .ref x), (1, .long y)] := hl
  have lkc240 := hts (.constantLong RX4 240 (31)) (by decide +kernel)
  have lkf10 := hts (.fieldLink RX4 10 "WireLamps" "state" "LWireLamps$State;") (by decide +kernel)
  have lkf19 := hts (.fieldLink RX4 19 "WireLamps" "journey" "LWireLamps$Journey;") (by decide +kernel)
  have lkf226 := hts (.fieldLink RX4 226 "WireLamps$Journey" "words" "[I") (by decide +kernel)
  have in_X1 : ∀ w ∈ u_ws RX1 TX1 6, w ∈ wsX4_withLamps := by decide +kernel
  have in_X4 : ∀ w ∈ u_ws RX4 TX4 5, w ∈ wsX4_withLamps := by decide +kernel
  refine lv_lload_n hx hb dX4_withLamps_0 rfl (lv_at hl 1 rfl) ?_
  refine lv_lstore_n (lv' := [(3, .long y), (0, .ref x), (1, .long y)]) hx hb dX4_withLamps_1 rfl hl (by decide) rfl (fun ls hl => ?_)
  refine lv_aload_n hx hb dX4_withLamps_2 rfl (lv_at hl 1 rfl) ?_
  refine wl_getf (C := RX4) (T := TX4) (N := 5) (ci := 4) (v := .ref (ja 0)) hx hb hts in_X4 hown hK hP 0 0 rfl rfl rfl 1 (by decide) lkf19 rfl rfl dX4_withLamps_3 ?_
  refine lv_aload_n hx hb dX4_withLamps_6 rfl (lv_at hl 1 rfl) ?_
  refine wl_getf (C := RX4) (T := TX4) (N := 5) (ci := 4) (v := .ref (sa 0)) hx hb hts in_X4 hown hK hP 0 0 rfl rfl rfl 0 (by decide) lkf10 rfl rfl dX4_withLamps_7 ?_
  have hP := wl_Po (bs' := [joW cy ja w, stW cy sa v, ([(x, .inr (4, [.ref (sa 0), .ref (ja 0), .ref (ta 0), .ref h, .ref q]))] : va_W)]) [1, 2, 0] 3 rfl (by decide) rfl hP
  have hD := wl_Do (bs' := [joW cy ja w, stW cy sa v, ([(x, .inr (4, [.ref (sa 0), .ref (ja 0), .ref (ta 0), .ref h, .ref q]))] : va_W)]) [1, 2, 0] 3 rfl (by decide) rfl hD
  refine wl_iVv (As := [.ref (sa 0)]) (rest := []) (bsC := [joW cy ja w, stW cy sa v]) (bsR := [([(x, .inr (4, [.ref (sa 0), .ref (ja 0), .ref (ta 0), .ref h, .ref q]))] : va_W)]) ⟨hx, hb, hml, hown, hts⟩ (m_X1_goThrough l D cy ja w sa v n s.heap.size hn (by omega)) (cwV 1 hts gX4_withLamps_X1_goThrough rfl rfl rfl (by decide +kernel) ⟨Nat.le_of_ble_eq_true rfl, Nat.le_of_ble_eq_true rfl⟩) wl_xT (fun _ _ _ => trivial) hK hP hD hS hA rfl rfl rfl rfl rfl hl.1 rfl (Nat.le_of_ble_eq_true rfl) dX4_withLamps_10 ⟨Nat.le_of_ble_eq_true rfl, Nat.le_of_ble_eq_true rfl⟩ (fun bs1 H locs e2 _ _ hP hD hS => ?_)
  have e2 : bs1 = [joW cy ja (q_gt v w n 8), stW cy sa v] := e2
  subst e2
  have hP : va_P D vwCl ([joW cy ja (q_gt v w n 8), stW cy sa v, ([(x, .inr (4, [.ref (sa 0), .ref (ja 0), .ref (ta 0), .ref h, .ref q]))] : va_W)] : List va_W).flatten H := hP
  have hD : va_D A ([joW cy ja (q_gt v w n 8), stW cy sa v, ([(x, .inr (4, [.ref (sa 0), .ref (ja 0), .ref (ta 0), .ref h, .ref q]))] : va_W)] : List va_W).flatten := hD
  have hP := wl_Po (bs' := [([(x, .inr (4, [.ref (sa 0), .ref (ja 0), .ref (ta 0), .ref h, .ref q]))] : va_W), joW cy ja (q_gt v w n 8), stW cy sa v]) [2, 0, 1] 3 rfl (by decide) rfl hP
  have hD := wl_Do (bs' := [([(x, .inr (4, [.ref (sa 0), .ref (ja 0), .ref (ta 0), .ref h, .ref q]))] : va_W), joW cy ja (q_gt v w n 8), stW cy sa v]) [2, 0, 1] 3 rfl (by decide) rfl hD
  refine lv_iconst (v := 0) hx hb dX4_withLamps_13 (by decide) ?_
  refine lv_istore (lv' := [(5, .int 0), (3, .long y), (0, .ref x), (1, .long y)]) hx hb dX4_withLamps_14 hl (by decide) rfl (fun ls hl => ?_)
  suffices K3 : ∀ (n4 : Nat) (i : Nat), 8 - i < n4 → (i ≤ 8) → ∀ (ls : Array Slot) (H : Heap) (locs : List Loc), va_P D vwCl ([([(x, .inr (4, [.ref (sa 0), .ref (ja 0), .ref (ta 0), .ref h, .ref q]))] : va_W), joW cy ja (q_gt v w n 8), stW cy sa v] : List va_W).flatten H → va_D A ([([(x, .inr (4, [.ref (sa 0), .ref (ja 0), .ref (ta 0), .ref h, .ref q]))] : va_W), joW cy ja (q_gt v w n 8), stW cy sa v] : List va_W).flatten → va_S A s.heap H locs → lv_has ls 7 [(5, .int (nI i)), (3, .long (q_wl v (q_gt v w n 8) n y i)), (0, .ref x)] → W p l e ({ frames := 4, cells := 0, slots := 0, locals := 94 } : Room) s m ([.ref x, .long y] : List Value).toArray below meth c H locs 0 0 (MQ below (va_Ql (fun (r : Int64) (bs : List va_W) => r = q_wl v (q_gt v w n 8) n y 8 ∧ bs = [([(x, .inr (4, [.ref (sa 0), .ref (ja 0), .ref (ta 0), .ref h, .ref q]))] : va_W), joW cy ja (q_gt v w n 8), stW cy sa v]) (wl_ib D [([(x, .inr (4, [.ref (sa 0), .ref (ja 0), .ref (ta 0), .ref h, .ref q]))] : va_W), joW cy ja w, stW cy sa v] sz) (va_A ([([(x, .inr (4, [.ref (sa 0), .ref (ja 0), .ref (ta 0), .ref h, .ref q]))] : va_W), joW cy ja w, stW cy sa v] : List va_W).flatten sz)) ([.ref x, .long y] : List Value).toArray s 0 0 (va_A ([([(x, .inr (4, [.ref (sa 0), .ref (ja 0), .ref (ta 0), .ref h, .ref q]))] : va_W), joW cy ja w, stW cy sa v] : List va_W).flatten sz)) (F0 m 16 ls []) from K3 9 0 (by omega) (by omega) _ _ _ hP hD hS (lv_sub hl [0, 1, 2] rfl)
  intro n4
  induction n4 with
  | zero => intro i hm; exact absurd hm (Nat.not_lt_zero _)
  | succ n4 ih5 =>
    intro i hm hi ls H locs hP hD hS hl
    refine lv_iload hx hb dX4_withLamps_16 (lv_at hl 0 rfl) ?_
    refine lv_bipush (v := 8) hx hb dX4_withLamps_18 (by decide) ?_
    refine wl_icmp_ge (tgt := 127) hx hb i 8 dX4_withLamps_20 (by decide) (by omega) (by omega) (fun c6 => ?_) (fun c6 => ?_)
    · obtain rfl : i = 8 := by omega
      refine lv_lload_n hx hb dX4_withLamps_127 rfl (lv_at hl 1 rfl) ?_
      exact wl_Rl (bs := [([(x, .inr (4, [.ref (sa 0), .ref (ja 0), .ref (ta 0), .ref h, .ref q]))] : va_W), joW cy ja (q_gt v w n 8), stW cy sa v]) (r := (q_wl v (q_gt v w n 8) n y 8)) hx hb hr hlocks hAe hP hD hS (by exact ⟨rfl, rfl⟩) dX4_withLamps_128
    · refine lv_iconst (v := 0) hx hb dX4_withLamps_23 (by decide) ?_
      refine lv_istore (lv' := [(6, .int 0), (5, .int (nI i)), (3, .long (q_wl v (q_gt v w n 8) n y i)), (0, .ref x)]) hx hb dX4_withLamps_24 hl (by decide) rfl (fun ls hl => ?_)
      suffices K7 : ∀ (n8 : Nat) (k : Nat), 8 - k < n8 → (k ≤ 8) → ∀ (ls : Array Slot) (H : Heap) (locs : List Loc), va_P D vwCl ([([(x, .inr (4, [.ref (sa 0), .ref (ja 0), .ref (ta 0), .ref h, .ref q]))] : va_W), joW cy ja (q_gt v w n 8), stW cy sa v] : List va_W).flatten H → va_D A ([([(x, .inr (4, [.ref (sa 0), .ref (ja 0), .ref (ta 0), .ref h, .ref q]))] : va_W), joW cy ja (q_gt v w n 8), stW cy sa v] : List va_W).flatten → va_S A s.heap H locs → lv_has ls 7 [(6, .int (nI k)), (5, .int (nI i)), (3, .long (q_hs (q_lo v i) (q_wl v (q_gt v w n 8) n y i) k)), (0, .ref x)] → W p l e ({ frames := 4, cells := 0, slots := 0, locals := 94 } : Room) s m ([.ref x, .long y] : List Value).toArray below meth c H locs 0 0 (MQ below (va_Ql (fun (r : Int64) (bs : List va_W) => r = q_wl v (q_gt v w n 8) n y 8 ∧ bs = [([(x, .inr (4, [.ref (sa 0), .ref (ja 0), .ref (ta 0), .ref h, .ref q]))] : va_W), joW cy ja (q_gt v w n 8), stW cy sa v]) (wl_ib D [([(x, .inr (4, [.ref (sa 0), .ref (ja 0), .ref (ta 0), .ref h, .ref q]))] : va_W), joW cy ja w, stW cy sa v] sz) (va_A ([([(x, .inr (4, [.ref (sa 0), .ref (ja 0), .ref (ta 0), .ref h, .ref q]))] : va_W), joW cy ja w, stW cy sa v] : List va_W).flatten sz)) ([.ref x, .long y] : List Value).toArray s 0 0 (va_A ([([(x, .inr (4, [.ref (sa 0), .ref (ja 0), .ref (ta 0), .ref h, .ref q]))] : va_W), joW cy ja w, stW cy sa v] : List va_W).flatten sz)) (F0 m 26 ls []) from K7 9 0 (by omega) (by omega) _ _ _ hP hD hS (lv_sub hl [0, 1, 2, 3] rfl)
      intro n8
      induction n8 with
      | zero => intro k hm; exact absurd hm (Nat.not_lt_zero _)
      | succ n8 ih9 =>
        intro k hm hk ls H locs hP hD hS hl
        refine lv_iload hx hb dX4_withLamps_26 (lv_at hl 0 rfl) ?_
        refine lv_bipush (v := 8) hx hb dX4_withLamps_28 (by decide) ?_
        refine wl_icmp_ge (tgt := 55) hx hb k 8 dX4_withLamps_30 (by decide) (by omega) (by omega) (fun c10 => ?_) (fun c10 => ?_)
        · obtain rfl : k = 8 := by omega
          refine lv_ldc2 (v := 31) hx hb hown lkc240 dX4_withLamps_55 ?_
          refine lv_lload_n hx hb dX4_withLamps_58 rfl (lv_at hl 2 rfl) ?_
          refine lv_lmul hx hb dX4_withLamps_59 ?_
          refine lv_aload_n hx hb dX4_withLamps_60 rfl (lv_at hl 3 rfl) ?_
          refine wl_getf (C := RX4) (T := TX4) (N := 5) (ci := 4) (v := .ref (ja 0)) hx hb hts in_X4 hown hK hP 0 0 rfl rfl rfl 1 (by decide) lkf19 rfl rfl dX4_withLamps_61 ?_
          refine wl_getf (C := RX1) (T := TX1) (N := 6) (ci := 1) (v := .ref (ja 2)) hx hb hts in_X1 hown hK hP 1 0 rfl rfl rfl 1 (by decide) lkf226 rfl rfl dX4_withLamps_64 ?_
          refine lv_iload hx hb dX4_withLamps_67 (lv_at hl 1 rfl) ?_
          refine wl_iald hx hb hK hP 1 2 rfl rfl i (by omega) (Nat.le_of_ble_eq_true rfl) dX4_withLamps_69 ?_
          refine lv_i2l (v := Int32.toInt64 ((q_gt v w n 8) 1 i)) hx hb dX4_withLamps_70 rfl ?_
          refine lv_ladd hx hb dX4_withLamps_71 ?_
          refine lv_lstore_n (lv' := [(3, .long ((31 * (q_hs (q_lo v i) (q_wl v (q_gt v w n 8) n y i) 8)) + (Int32.toInt64 ((q_gt v w n 8) 1 i)))), (6, .int (nI 8)), (5, .int (nI i)), (0, .ref x)]) hx hb dX4_withLamps_72 rfl hl (by decide) rfl (fun ls hl => ?_)
          refine lv_ldc2 (v := 31) hx hb hown lkc240 dX4_withLamps_73 ?_
          refine lv_lload_n hx hb dX4_withLamps_76 rfl (lv_at hl 0 rfl) ?_
          refine lv_lmul hx hb dX4_withLamps_77 ?_
          refine lv_aload_n hx hb dX4_withLamps_78 rfl (lv_at hl 3 rfl) ?_
          refine wl_getf (C := RX4) (T := TX4) (N := 5) (ci := 4) (v := .ref (sa 0)) hx hb hts in_X4 hown hK hP 0 0 rfl rfl rfl 0 (by decide) lkf10 rfl rfl dX4_withLamps_79 ?_
          refine lv_iload hx hb dX4_withLamps_82 (lv_at hl 2 rfl) ?_
          refine wl_pV (As := [.int (nI i)]) (rest := [.long (31 * ((31 * (q_hs (q_lo v i) (q_wl v (q_gt v w n 8) n y i) 8)) + (Int32.toInt64 ((q_gt v w n 8) 1 i))))]) ⟨hx, hb, hml, hown, hts⟩ (m_X2_wordByPlace l D cy sa v i n (by omega) hn (by omega)) (cwV 1 hts gX4_withLamps_X2_wordByPlace rfl rfl rfl (by decide +kernel) ⟨Nat.le_of_ble_eq_true rfl, Nat.le_of_ble_eq_true rfl⟩) hK hP [2] rfl rfl rfl rfl rfl rfl hl.1 rfl (Nat.le_of_ble_eq_true rfl) dX4_withLamps_84 ⟨Nat.le_of_ble_eq_true rfl, Nat.le_of_ble_eq_true rfl⟩ (fun r11 er11 => ?_)
          have er11 : r11 = q_wbp v i n := er11
          subst er11
          refine lv_i2l (v := Int32.toInt64 (q_wbp v i n)) hx hb dX4_withLamps_87 rfl ?_
          refine lv_ladd hx hb dX4_withLamps_88 ?_
          refine lv_lstore_n (lv' := [(3, .long ((31 * ((31 * (q_hs (q_lo v i) (q_wl v (q_gt v w n 8) n y i) 8)) + (Int32.toInt64 ((q_gt v w n 8) 1 i)))) + (Int32.toInt64 (q_wbp v i n)))), (6, .int (nI 8)), (5, .int (nI i)), (0, .ref x)]) hx hb dX4_withLamps_89 rfl hl (by decide) rfl (fun ls hl => ?_)
          refine lv_ldc2 (v := 31) hx hb hown lkc240 dX4_withLamps_90 ?_
          refine lv_lload_n hx hb dX4_withLamps_93 rfl (lv_at hl 0 rfl) ?_
          refine lv_lmul hx hb dX4_withLamps_94 ?_
          refine lv_aload_n hx hb dX4_withLamps_95 rfl (lv_at hl 3 rfl) ?_
          refine lv_iload hx hb dX4_withLamps_96 (lv_at hl 2 rfl) ?_
          refine wl_pV (As := [.int (nI i)]) (rest := [.long (31 * ((31 * ((31 * (q_hs (q_lo v i) (q_wl v (q_gt v w n 8) n y i) 8)) + (Int32.toInt64 ((q_gt v w n 8) 1 i)))) + (Int32.toInt64 (q_wbp v i n))))]) ⟨hx, hb, hml, hown, hts⟩ (m_X4_bears l D cy x sa ja ta h q v i (by omega)) (cwV 1 hts gX4_withLamps_X4_bears rfl rfl rfl (by decide +kernel) ⟨Nat.le_of_ble_eq_true rfl, Nat.le_of_ble_eq_true rfl⟩) hK hP [0, 2] rfl rfl rfl rfl rfl rfl hl.1 rfl (Nat.le_of_ble_eq_true rfl) dX4_withLamps_98 ⟨Nat.le_of_ble_eq_true rfl, Nat.le_of_ble_eq_true rfl⟩ (fun r12 er12 => ?_)
          have er12 : r12 = q_be v i := er12
          subst er12
          refine lv_i2l (v := Int32.toInt64 (q_be v i)) hx hb dX4_withLamps_101 rfl ?_
          refine lv_ladd hx hb dX4_withLamps_102 ?_
          refine lv_lstore_n (lv' := [(3, .long ((31 * ((31 * ((31 * (q_hs (q_lo v i) (q_wl v (q_gt v w n 8) n y i) 8)) + (Int32.toInt64 ((q_gt v w n 8) 1 i)))) + (Int32.toInt64 (q_wbp v i n)))) + (Int32.toInt64 (q_be v i)))), (6, .int (nI 8)), (5, .int (nI i)), (0, .ref x)]) hx hb dX4_withLamps_103 rfl hl (by decide) rfl (fun ls hl => ?_)
          refine lv_ldc2 (v := 31) hx hb hown lkc240 dX4_withLamps_104 ?_
          refine lv_lload_n hx hb dX4_withLamps_107 rfl (lv_at hl 0 rfl) ?_
          refine lv_lmul hx hb dX4_withLamps_108 ?_
          refine lv_aload_n hx hb dX4_withLamps_109 rfl (lv_at hl 3 rfl) ?_
          refine wl_getf (C := RX4) (T := TX4) (N := 5) (ci := 4) (v := .ref (sa 0)) hx hb hts in_X4 hown hK hP 0 0 rfl rfl rfl 0 (by decide) lkf10 rfl rfl dX4_withLamps_110 ?_
          refine lv_iload hx hb dX4_withLamps_113 (lv_at hl 2 rfl) ?_
          refine wl_pV (As := [.int (nI i)]) (rest := [.long (31 * ((31 * ((31 * ((31 * (q_hs (q_lo v i) (q_wl v (q_gt v w n 8) n y i) 8)) + (Int32.toInt64 ((q_gt v w n 8) 1 i)))) + (Int32.toInt64 (q_wbp v i n)))) + (Int32.toInt64 (q_be v i))))]) ⟨hx, hb, hml, hown, hts⟩ (m_X2_wordsUpTo l D cy sa v i (by omega)) (cwV 1 hts gX4_withLamps_X2_wordsUpTo rfl rfl rfl (by decide +kernel) ⟨Nat.le_of_ble_eq_true rfl, Nat.le_of_ble_eq_true rfl⟩) hK hP [2] rfl rfl rfl rfl rfl rfl hl.1 rfl (Nat.le_of_ble_eq_true rfl) dX4_withLamps_115 ⟨Nat.le_of_ble_eq_true rfl, Nat.le_of_ble_eq_true rfl⟩ (fun r13 er13 => ?_)
          have er13 : r13 = q_wu v i := er13
          subst er13
          refine lv_i2l (v := Int32.toInt64 (q_wu v i)) hx hb dX4_withLamps_118 rfl ?_
          refine lv_ladd hx hb dX4_withLamps_119 ?_
          refine lv_lstore_n (lv' := [(3, .long ((31 * ((31 * ((31 * ((31 * (q_hs (q_lo v i) (q_wl v (q_gt v w n 8) n y i) 8)) + (Int32.toInt64 ((q_gt v w n 8) 1 i)))) + (Int32.toInt64 (q_wbp v i n)))) + (Int32.toInt64 (q_be v i)))) + (Int32.toInt64 (q_wu v i)))), (6, .int (nI 8)), (5, .int (nI i)), (0, .ref x)]) hx hb dX4_withLamps_120 rfl hl (by decide) rfl (fun ls hl => ?_)
          refine lv_iinc (v := nI (i + 1)) (lv' := [(5, .int (nI (i + 1))), (3, .long ((31 * ((31 * ((31 * ((31 * (q_hs (q_lo v i) (q_wl v (q_gt v w n 8) n y i) 8)) + (Int32.toInt64 ((q_gt v w n 8) 1 i)))) + (Int32.toInt64 (q_wbp v i n)))) + (Int32.toInt64 (q_be v i)))) + (Int32.toInt64 (q_wu v i)))), (6, .int (nI 8)), (0, .ref x)]) hx hb dX4_withLamps_121 hl (k := 2) rfl (wl_inc i) (by decide) rfl (fun ls hl => ?_)
          refine lv_goto (tgt := 16) hx hb dX4_withLamps_124 (by decide) ?_
          exact ih5 (i + 1) (by omega) (by omega) _ _ _ hP hD hS (lv_sub hl [0, 1, 3] rfl)
        · refine lv_ldc2 (v := 31) hx hb hown lkc240 dX4_withLamps_33 ?_
          refine lv_lload_n hx hb dX4_withLamps_36 rfl (lv_at hl 2 rfl) ?_
          refine lv_lmul hx hb dX4_withLamps_37 ?_
          refine lv_aload_n hx hb dX4_withLamps_38 rfl (lv_at hl 3 rfl) ?_
          refine lv_iload hx hb dX4_withLamps_39 (lv_at hl 1 rfl) ?_
          refine lv_iload hx hb dX4_withLamps_41 (lv_at hl 0 rfl) ?_
          refine wl_pV (As := [.int (nI i), .int (nI k)]) (rest := [.long (31 * (q_hs (q_lo v i) (q_wl v (q_gt v w n 8) n y i) k))]) ⟨hx, hb, hml, hown, hts⟩ (m_X4_lampOf l D cy x sa ja ta h q v i k (by omega) (by omega)) (cwV 2 hts gX4_withLamps_X4_lampOf rfl rfl rfl (by decide +kernel) ⟨Nat.le_of_ble_eq_true rfl, Nat.le_of_ble_eq_true rfl⟩) hK hP [0, 2] rfl rfl rfl rfl rfl rfl hl.1 rfl (Nat.le_of_ble_eq_true rfl) dX4_withLamps_43 ⟨Nat.le_of_ble_eq_true rfl, Nat.le_of_ble_eq_true rfl⟩ (fun r14 er14 => ?_)
          have er14 : r14 = q_lo v i k := er14
          subst er14
          refine lv_i2l (v := Int32.toInt64 (q_lo v i k)) hx hb dX4_withLamps_46 rfl ?_
          refine lv_ladd hx hb dX4_withLamps_47 ?_
          refine lv_lstore_n (lv' := [(3, .long ((31 * (q_hs (q_lo v i) (q_wl v (q_gt v w n 8) n y i) k)) + (Int32.toInt64 (q_lo v i k)))), (6, .int (nI k)), (5, .int (nI i)), (0, .ref x)]) hx hb dX4_withLamps_48 rfl hl (by decide) rfl (fun ls hl => ?_)
          refine lv_iinc (v := nI (k + 1)) (lv' := [(6, .int (nI (k + 1))), (3, .long ((31 * (q_hs (q_lo v i) (q_wl v (q_gt v w n 8) n y i) k)) + (Int32.toInt64 (q_lo v i k)))), (5, .int (nI i)), (0, .ref x)]) hx hb dX4_withLamps_49 hl (k := 1) rfl (wl_inc k) (by decide) rfl (fun ls hl => ?_)
          refine lv_goto (tgt := 26) hx hb dX4_withLamps_52 (by decide) ?_
          exact ih9 (k + 1) (by omega) (by omega) _ _ _ hP hD hS (lv_sub hl [0, 2, 1, 3] rfl)
set_option maxHeartbeats 4000000 in
set_option maxRecDepth 100000 in
theorem m_X4_brightness (l : Launch) (D : va_G) (cy : Nat → ClassId) (x : Nat) (sa ja ta : Nat → Nat) (h q : Nat) (v : Nat → Nat → Int32) (hnan : vf_n64 (FP.ddiv (FP.i2d (q_st v)) 4645040803167600640)) : Met l yX4_brightness wsX4_brightness ({ frames := 3, cells := 0, slots := 0, locals := 68 } : Room) (wl_pc D cy [([(x, .inr (4, [.ref (sa 0), .ref (ja 0), .ref (ta 0), .ref h, .ref q]))] : va_W), stW cy sa v] [.ref x]) (vp_Sd (fun r : UInt64 => r = FP.ddiv (FP.i2d (q_st v)) 4645040803167600640)) 0 0 (fun _ => False) := by
  refine wl_ofP (cc := cX4_brightness) (maxL := 1) (ret := (some .double)) (by decide) rfl (Nat.le_of_ble_eq_true rfl) ?_
  intro p e s m below meth c ls hx hb hr hts hown hlocks hml hP hK hl
  have hl : lv_has ls 1 [(0, .ref x)] := hl
  have lkc236 := hts (.constantDouble RX4 236 (4645040803167600640)) (by decide +kernel)
  have lkf10 := hts (.fieldLink RX4 10 "WireLamps" "state" "LWireLamps$State;") (by decide +kernel)
  have in_X4 : ∀ w ∈ u_ws RX4 TX4 5, w ∈ wsX4_brightness := by decide +kernel
  refine lv_aload_n hx hb dX4_brightness_0 rfl (lv_at hl 0 rfl) ?_
  refine wl_getf (C := RX4) (T := TX4) (N := 5) (ci := 4) (v := .ref (sa 0)) hx hb hts in_X4 hown hK hP 0 0 rfl rfl rfl 0 (by decide) lkf10 rfl rfl dX4_brightness_1 ?_
  refine wl_pV (As := []) (rest := []) ⟨hx, hb, hml, hown, hts⟩ (m_X2_shownTogether l D cy sa v ) (cwV 0 hts gX4_brightness_X2_shownTogether rfl rfl rfl (by decide +kernel) ⟨Nat.le_of_ble_eq_true rfl, Nat.le_of_ble_eq_true rfl⟩) hK hP [1] rfl rfl rfl rfl rfl rfl hl.1 rfl (Nat.le_of_ble_eq_true rfl) dX4_brightness_4 ⟨Nat.le_of_ble_eq_true rfl, Nat.le_of_ble_eq_true rfl⟩ (fun r1 er1 => ?_)
  have er1 : r1 = q_st v := er1
  subst er1
  refine lv_i2d hx hb dX4_brightness_7 ?_
  refine lv_ldc2d (v := 4645040803167600640) hx hb hown lkc236 dX4_brightness_8 ?_
  refine lv_ddiv hx hb dX4_brightness_11 hnan ?_
  exact wl_rd (r := (FP.ddiv (FP.i2d (q_st v)) 4645040803167600640)) hx hb hr hlocks (by rfl) dX4_brightness_12
set_option maxHeartbeats 4000000 in
set_option maxRecDepth 100000 in
theorem m_X4_bitsOf1 (l : Launch) (D : va_G) (cy : Nat → ClassId) (x : UInt64) (K : Nat) (hok : q_okK x K) : Met l yX4_bitsOf wsX4_bitsOf ({ frames := 0, cells := 0, slots := 0, locals := 0 } : Room) (wl_pc D cy [] [.double x]) (vp_Sl (fun r : Int64 => r = q_bv x K)) 0 0 (fun _ => False) := by
  refine wl_ofP (cc := cX4_bitsOf) (maxL := 7) (ret := (some .long)) (by decide) rfl (Nat.le_of_ble_eq_true rfl) ?_
  intro p e s m below meth c ls hx hb hr hts hown hlocks hml hP hK hl
  have hl : lv_has ls 7 [(0, .double x)] := hl
  have lkc275 := hts (.constantDouble RX4 275 (4611686018427387904)) (by decide +kernel)
  have lkc277 := hts (.constantDouble RX4 277 (4841369599423283200)) (by decide +kernel)
  have hk20 := hok.2.1
  refine lv_dload_n hx hb dX4_bitsOf_0 rfl (lv_at hl 0 rfl) ?_
  refine lv_dconst0 hx hb dX4_bitsOf_1 ?_
  refine lv_dcmp hx hb dX4_bitsOf_2 ?_
  refine lv_if_gt (tgt := 8) hx hb dX4_bitsOf_3 (by decide) (fun c1 => ?_) (fun c1 => absurd hok.1 c1)
  refine lv_dload_n hx hb dX4_bitsOf_8 rfl (lv_at hl 0 rfl) ?_
  refine lv_dstore_n (lv' := [(2, .double x), (0, .double x)]) hx hb dX4_bitsOf_9 rfl hl (by decide) rfl (fun ls hl => ?_)
  refine lv_iconst (v := 0) hx hb dX4_bitsOf_10 (by decide) ?_
  refine lv_istore (lv' := [(4, .int 0), (2, .double x), (0, .double x)]) hx hb dX4_bitsOf_11 hl (by decide) rfl (fun ls hl => ?_)
  suffices K2 : ∀ (n3 : Nat) (k : Nat), K - k < n3 → (k ≤ K) → ∀ (ls : Array Slot), lv_has ls 7 [(4, .int (0 - nI k)), (2, .double (q_sc x k))] → W p l e ({ frames := 0, cells := 0, slots := 0, locals := 0 } : Room) s m ([.double x] : List Value).toArray below meth c s.heap [] 0 0 (MQ below (vp_Sl (fun r : Int64 => r = q_bv x K)) ([.double x] : List Value).toArray s 0 0 (fun _ => False)) (F0 m 13 ls []) from K2 (K + 1) 0 (by omega) (by omega) _  (lv_sub hl [0, 1] rfl)
  intro n3
  induction n3 with
  | zero => intro k hm; exact absurd hm (Nat.not_lt_zero _)
  | succ n3 ih4 =>
    intro k hm hk ls  hl
    refine lv_dload_n hx hb dX4_bitsOf_13 rfl (lv_at hl 1 rfl) ?_
    refine lv_dconst1 hx hb dX4_bitsOf_14 ?_
    refine lv_dcmp hx hb dX4_bitsOf_15 ?_
    refine lv_if_ge (tgt := 39) hx hb dX4_bitsOf_16 (by decide) (fun hge => ?_) (fun hge => ?_)
    · have hKk : K = k := by rcases Nat.lt_or_ge k K with q1 | q1; exact absurd hge (Int32.not_le.mpr (hok.2.2.1 k q1).1); omega
      subst hKk
      refine lv_dload_n hx hb dX4_bitsOf_39 rfl (lv_at hl 1 rfl) ?_
      refine lv_dconst1 hx hb dX4_bitsOf_40 ?_
      refine lv_dsub hx hb dX4_bitsOf_41 hok.2.2.2.2.1 ?_
      refine lv_ldc2d (v := 4841369599423283200) hx hb hown lkc277 dX4_bitsOf_42 ?_
      refine lv_dmul hx hb dX4_bitsOf_45 hok.2.2.2.2.2 ?_
      refine lv_d2l hx hb dX4_bitsOf_46 ?_
      refine lv_lstore (lv' := [(5, .long (FP.d2l (FP.dmul (FP.dsub (q_sc x K) FP.dconst1) 4841369599423283200))), (4, .int (0 - nI K)), (2, .double (q_sc x K))]) hx hb dX4_bitsOf_47 hl (by decide) rfl (fun ls hl => ?_)
      refine lv_sipush (v := 1023) hx hb dX4_bitsOf_49 (by decide) ?_
      refine lv_iload hx hb dX4_bitsOf_52 (lv_at hl 1 rfl) ?_
      refine lv_iadd hx hb dX4_bitsOf_54 ?_
      refine lv_i2l (v := Int32.toInt64 (1023 + (0 - nI K))) hx hb dX4_bitsOf_55 rfl ?_
      refine lv_bipush (v := 52) hx hb dX4_bitsOf_56 (by decide) ?_
      refine lv_lshl (v := (Int32.toInt64 (1023 + (0 - nI K))) <<< ((52 : Int32).toInt64 &&& 63)) hx hb dX4_bitsOf_58 rfl ?_
      refine lv_lload hx hb dX4_bitsOf_59 (lv_at hl 0 rfl) ?_
      refine lv_ladd hx hb dX4_bitsOf_61 ?_
      exact wl_rl (r := (((Int32.toInt64 (1023 + (0 - nI K))) <<< ((52 : Int32).toInt64 &&& 63)) + (FP.d2l (FP.dmul (FP.dsub (q_sc x K) FP.dconst1) 4841369599423283200)))) hx hb hr hlocks (by rfl) dX4_bitsOf_62
    · have hkK : k < K := by rcases Nat.lt_or_ge k K with q1 | q1; exact q1; (obtain rfl : k = K := by omega); exact absurd hok.2.2.2.1 hge
      refine lv_iload hx hb dX4_bitsOf_19 (lv_at hl 0 rfl) ?_
      refine lv_sipush (v := (-1023)) hx hb dX4_bitsOf_21 (by decide) ?_
      refine lv_icmp_le (tgt := 39) hx hb dX4_bitsOf_24 (by decide) (fun c5 => absurd c5 (q_ex k (by omega))) (fun c5 => ?_)
      refine lv_dload_n hx hb dX4_bitsOf_27 rfl (lv_at hl 1 rfl) ?_
      refine lv_ldc2d (v := 4611686018427387904) hx hb hown lkc275 dX4_bitsOf_28 ?_
      refine lv_dmul hx hb dX4_bitsOf_31 (hok.2.2.1 k hkK).2 ?_
      refine lv_dstore_n (lv' := [(2, .double (FP.dmul (q_sc x k) 4611686018427387904)), (4, .int (0 - nI k))]) hx hb dX4_bitsOf_32 rfl hl (by decide) rfl (fun ls hl => ?_)
      refine lv_iinc (v := 0 - nI (k + 1)) (lv' := [(4, .int (0 - nI (k + 1))), (2, .double (FP.dmul (q_sc x k) 4611686018427387904))]) hx hb dX4_bitsOf_33 hl (k := 1) rfl (q_exs k) (by decide) rfl (fun ls hl => ?_)
      refine lv_goto (tgt := 13) hx hb dX4_bitsOf_36 (by decide) ?_
      exact ih4 (k + 1) (by omega) (by omega) _  (lv_sub hl [0, 1] rfl)
set_option maxHeartbeats 4000000 in
set_option maxRecDepth 100000 in
theorem m_X4_bitsOf0 (l : Launch) (D : va_G) (cy : Nat → ClassId) (x : UInt64) (hok : ¬ 0 < Op.cmpValue (FP.dcmp x FP.dconst0) .g) : Met l yX4_bitsOf wsX4_bitsOf ({ frames := 0, cells := 0, slots := 0, locals := 0 } : Room) (wl_pc D cy [] [.double x]) (vp_Sl (fun r : Int64 => r = 0)) 0 0 (fun _ => False) := by
  refine wl_ofP (cc := cX4_bitsOf) (maxL := 7) (ret := (some .long)) (by decide) rfl (Nat.le_of_ble_eq_true rfl) ?_
  intro p e s m below meth c ls hx hb hr hts hown hlocks hml hP hK hl
  have hl : lv_has ls 7 [(0, .double x)] := hl
  refine lv_dload_n hx hb dX4_bitsOf_0 rfl (lv_at hl 0 rfl) ?_
  refine lv_dconst0 hx hb dX4_bitsOf_1 ?_
  refine lv_dcmp hx hb dX4_bitsOf_2 ?_
  refine lv_if_gt (tgt := 8) hx hb dX4_bitsOf_3 (by decide) (fun c1 => absurd c1 hok) (fun c1 => ?_)
  refine lv_lconst (v := 0) hx hb dX4_bitsOf_6 (by decide) ?_
  exact wl_rl (r := 0) hx hb hr hlocks (by rfl) dX4_bitsOf_7
theorem m_X4_bitsOf (l : Launch) (D : va_G) (cy : Nat → ClassId) (x : UInt64) (B : Int64) (hok : q_okb x B) : Met l yX4_bitsOf wsX4_bitsOf ({ frames := 0, cells := 0, slots := 0, locals := 0 } : Room) (wl_pc D cy [] [.double x]) (vp_Sl (fun r : Int64 => r = B)) 0 0 (fun _ => False) := by
  rcases hok with ⟨h, rfl⟩ | ⟨K, h, rfl⟩
  · exact m_X4_bitsOf0 l D cy x h
  · exact m_X4_bitsOf1 l D cy x K h
set_option maxHeartbeats 4000000 in
set_option maxRecDepth 100000 in
theorem m_X4_digest (l : Launch) (D : va_G) (cy : Nat → ClassId) (x : Nat) (sa ja ta : Nat → Nat) (h q : Nat) (w : Nat → Nat → Int32) (v : Nat → Nat → Int32) (t : Nat → Nat → Int32) (g : Nat) (f : Nat → Option Nat) (n z k : Nat) (B : Int64) (sz : Nat) (hn : v 7 0 = nI n) (hn2 : n ≤ 120) (hk : t 1 0 = nI k) (hk2 : k ≤ 60) (hc : ∀ y, y < k → vp_nar .char (t 0 y) = t 0 y) (hnan : vf_n64 (FP.ddiv (FP.i2d (q_st v)) 4645040803167600640)) (hbits : q_okb (FP.ddiv (FP.i2d (q_st v)) 4645040803167600640) B) : Met l yX4_digest wsX4_digest ({ frames := 5, cells := 0, slots := 0, locals := 120 } : Room) (wl_ic D cy (fun _ => True) [([(x, .inr (4, [.ref (sa 0), .ref (ja 0), .ref (ta 0), .ref h, .ref q]))] : va_W), joW cy ja w, stW cy sa v, ([(h, .inr (0, [.ref g, .int (nI z)]))] : va_W), txW cy ta t, ([(q, .inl (cy 3, 2, (.inr (.inr (.inr (.inr f))))))] : va_W)] sz [.ref x]) (va_Ql (fun (r : Int64) (bs : List va_W) => r = q_di v (q_gt v w n 8) n z f t k B ∧ bs = [([(x, .inr (4, [.ref (sa 0), .ref (ja 0), .ref (ta 0), .ref h, .ref q]))] : va_W), joW cy ja (q_gt v w n 8), stW cy sa v, ([(h, .inr (0, [.ref g, .int (nI z)]))] : va_W), txW cy ta t, ([(q, .inl (cy 3, 2, (.inr (.inr (.inr (.inr f))))))] : va_W)]) (wl_ib D [([(x, .inr (4, [.ref (sa 0), .ref (ja 0), .ref (ta 0), .ref h, .ref q]))] : va_W), joW cy ja w, stW cy sa v, ([(h, .inr (0, [.ref g, .int (nI z)]))] : va_W), txW cy ta t, ([(q, .inl (cy 3, 2, (.inr (.inr (.inr (.inr f))))))] : va_W)] sz) (va_A ([([(x, .inr (4, [.ref (sa 0), .ref (ja 0), .ref (ta 0), .ref h, .ref q]))] : va_W), joW cy ja w, stW cy sa v, ([(h, .inr (0, [.ref g, .int (nI z)]))] : va_W), txW cy ta t, ([(q, .inl (cy 3, 2, (.inr (.inr (.inr (.inr f))))))] : va_W)] : List va_W).flatten sz)) 0 0 (va_A ([([(x, .inr (4, [.ref (sa 0), .ref (ja 0), .ref (ta 0), .ref h, .ref q]))] : va_W), joW cy ja w, stW cy sa v, ([(h, .inr (0, [.ref g, .int (nI z)]))] : va_W), txW cy ta t, ([(q, .inl (cy 3, 2, (.inr (.inr (.inr (.inr f))))))] : va_W)] : List va_W).flatten sz) := by
  refine wl_ofI (cc := cX4_digest) (maxL := 4) (ret := (some .long)) (by decide) rfl (Nat.le_of_ble_eq_true rfl) ?_
  intro p e s m below meth c ls A hx hb hr hts hown hlocks hml hnm hsz hAe hP hK hD hX hA hS hl
  have hl : lv_has ls 4 [(0, .ref x)] := hl
  have lkc238 := hts (.constantLong RX4 238 (3517)) (by decide +kernel)
  have lkc240 := hts (.constantLong RX4 240 (31)) (by decide +kernel)
  have lkf10 := hts (.fieldLink RX4 10 "WireLamps" "state" "LWireLamps$State;") (by decide +kernel)
  have lkf119 := hts (.fieldLink RX4 119 "WireLamps$Text" "length" "I") (by decide +kernel)
  have lkf195 := hts (.fieldLink RX4 195 "WireLamps$State" "pulses" "[I") (by decide +kernel)
  have lkf26 := hts (.fieldLink RX4 26 "WireLamps" "text" "LWireLamps$Text;") (by decide +kernel)
  have lkf263 := hts (.fieldLink RX4 263 "WireLamps$Text" "signs" "[C") (by decide +kernel)
  have lkf37 := hts (.fieldLink RX4 37 "WireLamps" "slots" "[LWireLamps$State;") (by decide +kernel)
  have lkf83 := hts (.fieldLink RX4 83 "WireLamps$State" "settings" "[I") (by decide +kernel)
  have lkf99 := hts (.fieldLink RX4 99 "WireLamps$State" "pulseCount" "I") (by decide +kernel)
  have in_X2 : ∀ w ∈ u_ws RX2 TX2 13, w ∈ wsX4_digest := by decide +kernel
  have in_X3 : ∀ w ∈ u_ws RX3 TX3 2, w ∈ wsX4_digest := by decide +kernel
  have in_X4 : ∀ w ∈ u_ws RX4 TX4 5, w ∈ wsX4_digest := by decide +kernel
  refine lv_ldc2 (v := 3517) hx hb hown lkc238 dX4_digest_0 ?_
  refine lv_lstore_n (lv' := [(1, .long 3517), (0, .ref x)]) hx hb dX4_digest_3 rfl hl (by decide) rfl (fun ls hl => ?_)
  refine lv_iconst (v := 0) hx hb dX4_digest_4 (by decide) ?_
  refine lv_istore_n (lv' := [(3, .int 0), (1, .long 3517), (0, .ref x)]) hx hb dX4_digest_5 rfl hl (by decide) rfl (fun ls hl => ?_)
  suffices K1 : ∀ (n2 : Nat) (i : Nat), 11 - i < n2 → (i ≤ 11) → ∀ (ls : Array Slot), lv_has ls 4 [(3, .int (nI i)), (1, .long (q_hs (q_co v z) 3517 i)), (0, .ref x)] → W p l e ({ frames := 5, cells := 0, slots := 0, locals := 120 } : Room) s m ([.ref x] : List Value).toArray below meth c s.heap [] 0 0 (MQ below (va_Ql (fun (r : Int64) (bs : List va_W) => r = q_di v (q_gt v w n 8) n z f t k B ∧ bs = [([(x, .inr (4, [.ref (sa 0), .ref (ja 0), .ref (ta 0), .ref h, .ref q]))] : va_W), joW cy ja (q_gt v w n 8), stW cy sa v, ([(h, .inr (0, [.ref g, .int (nI z)]))] : va_W), txW cy ta t, ([(q, .inl (cy 3, 2, (.inr (.inr (.inr (.inr f))))))] : va_W)]) (wl_ib D [([(x, .inr (4, [.ref (sa 0), .ref (ja 0), .ref (ta 0), .ref h, .ref q]))] : va_W), joW cy ja w, stW cy sa v, ([(h, .inr (0, [.ref g, .int (nI z)]))] : va_W), txW cy ta t, ([(q, .inl (cy 3, 2, (.inr (.inr (.inr (.inr f))))))] : va_W)] sz) (va_A ([([(x, .inr (4, [.ref (sa 0), .ref (ja 0), .ref (ta 0), .ref h, .ref q]))] : va_W), joW cy ja w, stW cy sa v, ([(h, .inr (0, [.ref g, .int (nI z)]))] : va_W), txW cy ta t, ([(q, .inl (cy 3, 2, (.inr (.inr (.inr (.inr f))))))] : va_W)] : List va_W).flatten sz)) ([.ref x] : List Value).toArray s 0 0 (va_A ([([(x, .inr (4, [.ref (sa 0), .ref (ja 0), .ref (ta 0), .ref h, .ref q]))] : va_W), joW cy ja w, stW cy sa v, ([(h, .inr (0, [.ref g, .int (nI z)]))] : va_W), txW cy ta t, ([(q, .inl (cy 3, 2, (.inr (.inr (.inr (.inr f))))))] : va_W)] : List va_W).flatten sz)) (F0 m 6 ls []) from K1 (11 + 1) 0 (by omega) (by omega) _  (lv_sub hl [0, 1, 2] rfl)
  intro n2
  induction n2 with
  | zero => intro i hm; exact absurd hm (Nat.not_lt_zero _)
  | succ n2 ih3 =>
    intro i hm hi ls  hl
    refine lv_iload_n hx hb dX4_digest_6 rfl (lv_at hl 0 rfl) ?_
    refine lv_bipush (v := 11) hx hb dX4_digest_7 (by decide) ?_
    refine wl_icmp_ge (tgt := 31) hx hb i 11 dX4_digest_9 (by decide) (by omega) (by omega) (fun c4 => ?_) (fun c4 => ?_)
    · obtain rfl : i = 11 := by omega
      refine lv_iconst (v := 0) hx hb dX4_digest_31 (by decide) ?_
      refine lv_istore_n (lv' := [(3, .int 0), (1, .long (q_hs (q_co v z) 3517 11)), (0, .ref x)]) hx hb dX4_digest_32 rfl hl (by decide) rfl (fun ls hl => ?_)
      suffices K5 : ∀ (n6 : Nat) (i : Nat), 3 - i < n6 → (i ≤ 3) → ∀ (ls : Array Slot), lv_has ls 4 [(3, .int (nI i)), (1, .long (q_hs (v 5) (q_hs (q_co v z) 3517 11) i)), (0, .ref x)] → W p l e ({ frames := 5, cells := 0, slots := 0, locals := 120 } : Room) s m ([.ref x] : List Value).toArray below meth c s.heap [] 0 0 (MQ below (va_Ql (fun (r : Int64) (bs : List va_W) => r = q_di v (q_gt v w n 8) n z f t k B ∧ bs = [([(x, .inr (4, [.ref (sa 0), .ref (ja 0), .ref (ta 0), .ref h, .ref q]))] : va_W), joW cy ja (q_gt v w n 8), stW cy sa v, ([(h, .inr (0, [.ref g, .int (nI z)]))] : va_W), txW cy ta t, ([(q, .inl (cy 3, 2, (.inr (.inr (.inr (.inr f))))))] : va_W)]) (wl_ib D [([(x, .inr (4, [.ref (sa 0), .ref (ja 0), .ref (ta 0), .ref h, .ref q]))] : va_W), joW cy ja w, stW cy sa v, ([(h, .inr (0, [.ref g, .int (nI z)]))] : va_W), txW cy ta t, ([(q, .inl (cy 3, 2, (.inr (.inr (.inr (.inr f))))))] : va_W)] sz) (va_A ([([(x, .inr (4, [.ref (sa 0), .ref (ja 0), .ref (ta 0), .ref h, .ref q]))] : va_W), joW cy ja w, stW cy sa v, ([(h, .inr (0, [.ref g, .int (nI z)]))] : va_W), txW cy ta t, ([(q, .inl (cy 3, 2, (.inr (.inr (.inr (.inr f))))))] : va_W)] : List va_W).flatten sz)) ([.ref x] : List Value).toArray s 0 0 (va_A ([([(x, .inr (4, [.ref (sa 0), .ref (ja 0), .ref (ta 0), .ref h, .ref q]))] : va_W), joW cy ja w, stW cy sa v, ([(h, .inr (0, [.ref g, .int (nI z)]))] : va_W), txW cy ta t, ([(q, .inl (cy 3, 2, (.inr (.inr (.inr (.inr f))))))] : va_W)] : List va_W).flatten sz)) (F0 m 33 ls []) from K5 (3 + 1) 0 (by omega) (by omega) _  (lv_sub hl [0, 1, 2] rfl)
      intro n6
      induction n6 with
      | zero => intro i hm; exact absurd hm (Nat.not_lt_zero _)
      | succ n6 ih7 =>
        intro i hm hi ls  hl
        refine lv_iload_n hx hb dX4_digest_33 rfl (lv_at hl 0 rfl) ?_
        refine lv_iconst (v := 3) hx hb dX4_digest_34 (by decide) ?_
        refine wl_icmp_ge (tgt := 61) hx hb i 3 dX4_digest_35 (by decide) (by omega) (by omega) (fun c8 => ?_) (fun c8 => ?_)
        · obtain rfl : i = 3 := by omega
          refine lv_aload_n hx hb dX4_digest_61 rfl (lv_at hl 2 rfl) ?_
          refine lv_lload_n hx hb dX4_digest_62 rfl (lv_at hl 1 rfl) ?_
          refine wl_iVl (As := [.long (q_hs (v 5) (q_hs (q_co v z) 3517 11) 3)]) (rest := []) (bsC := [([(x, .inr (4, [.ref (sa 0), .ref (ja 0), .ref (ta 0), .ref h, .ref q]))] : va_W), joW cy ja w, stW cy sa v]) (bsR := [([(h, .inr (0, [.ref g, .int (nI z)]))] : va_W), txW cy ta t, ([(q, .inl (cy 3, 2, (.inr (.inr (.inr (.inr f))))))] : va_W)]) ⟨hx, hb, hml, hown, hts⟩ (m_X4_withLamps l D cy x sa ja ta h q w v n (q_hs (v 5) (q_hs (q_co v z) 3517 11) 3) s.heap.size hn (by omega)) (cwV 1 hts gX4_digest_X4_withLamps rfl rfl rfl (by decide +kernel) ⟨Nat.le_of_ble_eq_true rfl, Nat.le_of_ble_eq_true rfl⟩) wl_xT (fun _ _ _ => trivial) hK hP hD hS hA rfl rfl rfl rfl rfl hl.1 rfl (Nat.le_of_ble_eq_true rfl) dX4_digest_63 ⟨Nat.le_of_ble_eq_true rfl, Nat.le_of_ble_eq_true rfl⟩ (fun r9 bs10 H locs e11 _ _ hP hD hS => ?_)
          obtain ⟨er9, e11⟩ : r9 = q_wl v (q_gt v w n 8) n (q_hs (v 5) (q_hs (q_co v z) 3517 11) 3) 8 ∧ bs10 = [([(x, .inr (4, [.ref (sa 0), .ref (ja 0), .ref (ta 0), .ref h, .ref q]))] : va_W), joW cy ja (q_gt v w n 8), stW cy sa v] := e11
          subst e11
          subst er9
          have hP : va_P D vwCl ([([(x, .inr (4, [.ref (sa 0), .ref (ja 0), .ref (ta 0), .ref h, .ref q]))] : va_W), joW cy ja (q_gt v w n 8), stW cy sa v, ([(h, .inr (0, [.ref g, .int (nI z)]))] : va_W), txW cy ta t, ([(q, .inl (cy 3, 2, (.inr (.inr (.inr (.inr f))))))] : va_W)] : List va_W).flatten H := hP
          have hD : va_D A ([([(x, .inr (4, [.ref (sa 0), .ref (ja 0), .ref (ta 0), .ref h, .ref q]))] : va_W), joW cy ja (q_gt v w n 8), stW cy sa v, ([(h, .inr (0, [.ref g, .int (nI z)]))] : va_W), txW cy ta t, ([(q, .inl (cy 3, 2, (.inr (.inr (.inr (.inr f))))))] : va_W)] : List va_W).flatten := hD
          refine lv_lstore_n (lv' := [(1, .long (q_wl v (q_gt v w n 8) n (q_hs (v 5) (q_hs (q_co v z) 3517 11) 3) 8)), (3, .int (nI 3)), (0, .ref x)]) hx hb dX4_digest_66 rfl hl (by decide) rfl (fun ls hl => ?_)
          refine lv_iconst (v := 0) hx hb dX4_digest_67 (by decide) ?_
          refine lv_istore_n (lv' := [(3, .int 0), (1, .long (q_wl v (q_gt v w n 8) n (q_hs (v 5) (q_hs (q_co v z) 3517 11) 3) 8)), (0, .ref x)]) hx hb dX4_digest_68 rfl hl (by decide) rfl (fun ls hl => ?_)
          suffices K12 : ∀ (n13 : Nat) (i : Nat), n - i < n13 → (i ≤ n) → ∀ (ls : Array Slot) (H : Heap) (locs : List Loc), va_P D vwCl ([([(x, .inr (4, [.ref (sa 0), .ref (ja 0), .ref (ta 0), .ref h, .ref q]))] : va_W), joW cy ja (q_gt v w n 8), stW cy sa v, ([(h, .inr (0, [.ref g, .int (nI z)]))] : va_W), txW cy ta t, ([(q, .inl (cy 3, 2, (.inr (.inr (.inr (.inr f))))))] : va_W)] : List va_W).flatten H → va_D A ([([(x, .inr (4, [.ref (sa 0), .ref (ja 0), .ref (ta 0), .ref h, .ref q]))] : va_W), joW cy ja (q_gt v w n 8), stW cy sa v, ([(h, .inr (0, [.ref g, .int (nI z)]))] : va_W), txW cy ta t, ([(q, .inl (cy 3, 2, (.inr (.inr (.inr (.inr f))))))] : va_W)] : List va_W).flatten → va_S A s.heap H locs → lv_has ls 4 [(3, .int (nI i)), (1, .long (q_hs (v 6) (q_wl v (q_gt v w n 8) n (q_hs (v 5) (q_hs (q_co v z) 3517 11) 3) 8) i)), (0, .ref x)] → W p l e ({ frames := 5, cells := 0, slots := 0, locals := 120 } : Room) s m ([.ref x] : List Value).toArray below meth c H locs 0 0 (MQ below (va_Ql (fun (r : Int64) (bs : List va_W) => r = q_di v (q_gt v w n 8) n z f t k B ∧ bs = [([(x, .inr (4, [.ref (sa 0), .ref (ja 0), .ref (ta 0), .ref h, .ref q]))] : va_W), joW cy ja (q_gt v w n 8), stW cy sa v, ([(h, .inr (0, [.ref g, .int (nI z)]))] : va_W), txW cy ta t, ([(q, .inl (cy 3, 2, (.inr (.inr (.inr (.inr f))))))] : va_W)]) (wl_ib D [([(x, .inr (4, [.ref (sa 0), .ref (ja 0), .ref (ta 0), .ref h, .ref q]))] : va_W), joW cy ja w, stW cy sa v, ([(h, .inr (0, [.ref g, .int (nI z)]))] : va_W), txW cy ta t, ([(q, .inl (cy 3, 2, (.inr (.inr (.inr (.inr f))))))] : va_W)] sz) (va_A ([([(x, .inr (4, [.ref (sa 0), .ref (ja 0), .ref (ta 0), .ref h, .ref q]))] : va_W), joW cy ja w, stW cy sa v, ([(h, .inr (0, [.ref g, .int (nI z)]))] : va_W), txW cy ta t, ([(q, .inl (cy 3, 2, (.inr (.inr (.inr (.inr f))))))] : va_W)] : List va_W).flatten sz)) ([.ref x] : List Value).toArray s 0 0 (va_A ([([(x, .inr (4, [.ref (sa 0), .ref (ja 0), .ref (ta 0), .ref h, .ref q]))] : va_W), joW cy ja w, stW cy sa v, ([(h, .inr (0, [.ref g, .int (nI z)]))] : va_W), txW cy ta t, ([(q, .inl (cy 3, 2, (.inr (.inr (.inr (.inr f))))))] : va_W)] : List va_W).flatten sz)) (F0 m 69 ls []) from K12 (n + 1) 0 (by omega) (by omega) _ _ _ hP hD hS (lv_sub hl [0, 1, 2] rfl)
          intro n13
          induction n13 with
          | zero => intro i hm; exact absurd hm (Nat.not_lt_zero _)
          | succ n13 ih14 =>
            intro i hm hi ls H locs hP hD hS hl
            refine lv_iload_n hx hb dX4_digest_69 rfl (lv_at hl 0 rfl) ?_
            refine lv_aload_n hx hb dX4_digest_70 rfl (lv_at hl 2 rfl) ?_
            refine wl_getf (C := RX4) (T := TX4) (N := 5) (ci := 4) (v := .ref (sa 0)) hx hb hts in_X4 hown hK hP 0 0 rfl rfl rfl 0 (by decide) lkf10 rfl rfl dX4_digest_71 ?_
            refine wl_getf (C := RX2) (T := TX2) (N := 13) (ci := 2) (v := .int (v 7 0)) hx hb hts in_X2 hown hK hP 2 0 rfl rfl rfl 7 (by decide) lkf99 rfl rfl dX4_digest_74 ?_
            refine wl_top (y := nI n) hn ?_
            refine wl_icmp_ge (tgt := 109) hx hb i n dX4_digest_77 (by decide) (by omega) (by omega) (fun c15 => ?_) (fun c15 => ?_)
            · have hil : n = i := by omega
              subst hil
              refine lv_ldc2 (v := 31) hx hb hown lkc240 dX4_digest_109 ?_
              refine lv_lload_n hx hb dX4_digest_112 rfl (lv_at hl 1 rfl) ?_
              refine lv_lmul hx hb dX4_digest_113 ?_
              refine lv_aload_n hx hb dX4_digest_114 rfl (lv_at hl 2 rfl) ?_
              refine lv_sipush (v := 1365) hx hb dX4_digest_115 (by decide) ?_
              refine wl_pV (As := [.int 1365]) (rest := [.long (31 * (q_hs (v 6) (q_wl v (q_gt v w n 8) n (q_hs (v 5) (q_hs (q_co v z) 3517 11) 3) 8) n))]) ⟨hx, hb, hml, hown, hts⟩ (m_X4_wrong l D cy x sa ja ta h q v 1365 (by omega)) (cwV 1 hts gX4_digest_X4_wrong rfl rfl rfl (by decide +kernel) ⟨Nat.le_of_ble_eq_true rfl, Nat.le_of_ble_eq_true rfl⟩) hK hP [0, 2] rfl rfl rfl rfl rfl rfl hl.1 rfl (Nat.le_of_ble_eq_true rfl) dX4_digest_118 ⟨Nat.le_of_ble_eq_true rfl, Nat.le_of_ble_eq_true rfl⟩ (fun r16 er16 => ?_)
              have er16 : r16 = q_wm v (q_el v (-1) 0) (nI 1365) 8 := er16
              subst er16
              refine lv_i2l (v := Int32.toInt64 (q_wm v (q_el v (-1) 0) (nI 1365) 8)) hx hb dX4_digest_121 rfl ?_
              refine lv_ladd hx hb dX4_digest_122 ?_
              refine lv_lstore_n (lv' := [(1, .long ((31 * (q_hs (v 6) (q_wl v (q_gt v w n 8) n (q_hs (v 5) (q_hs (q_co v z) 3517 11) 3) 8) n)) + (Int32.toInt64 (q_wm v (q_el v (-1) 0) (nI 1365) 8)))), (3, .int (nI n)), (0, .ref x)]) hx hb dX4_digest_123 rfl hl (by decide) rfl (fun ls hl => ?_)
              refine lv_ldc2 (v := 31) hx hb hown lkc240 dX4_digest_124 ?_
              refine lv_lload_n hx hb dX4_digest_127 rfl (lv_at hl 0 rfl) ?_
              refine lv_lmul hx hb dX4_digest_128 ?_
              refine lv_aload_n hx hb dX4_digest_129 rfl (lv_at hl 2 rfl) ?_
              refine lv_sipush (v := 4095) hx hb dX4_digest_130 (by decide) ?_
              refine wl_pV (As := [.int 4095]) (rest := [.long (31 * ((31 * (q_hs (v 6) (q_wl v (q_gt v w n 8) n (q_hs (v 5) (q_hs (q_co v z) 3517 11) 3) 8) n)) + (Int32.toInt64 (q_wm v (q_el v (-1) 0) (nI 1365) 8))))]) ⟨hx, hb, hml, hown, hts⟩ (m_X4_wrong l D cy x sa ja ta h q v 4095 (by omega)) (cwV 1 hts gX4_digest_X4_wrong rfl rfl rfl (by decide +kernel) ⟨Nat.le_of_ble_eq_true rfl, Nat.le_of_ble_eq_true rfl⟩) hK hP [0, 2] rfl rfl rfl rfl rfl rfl hl.1 rfl (Nat.le_of_ble_eq_true rfl) dX4_digest_133 ⟨Nat.le_of_ble_eq_true rfl, Nat.le_of_ble_eq_true rfl⟩ (fun r17 er17 => ?_)
              have er17 : r17 = q_wm v (q_el v (-1) 0) (nI 4095) 8 := er17
              subst er17
              refine lv_i2l (v := Int32.toInt64 (q_wm v (q_el v (-1) 0) (nI 4095) 8)) hx hb dX4_digest_136 rfl ?_
              refine lv_ladd hx hb dX4_digest_137 ?_
              refine lv_lstore_n (lv' := [(1, .long ((31 * ((31 * (q_hs (v 6) (q_wl v (q_gt v w n 8) n (q_hs (v 5) (q_hs (q_co v z) 3517 11) 3) 8) n)) + (Int32.toInt64 (q_wm v (q_el v (-1) 0) (nI 1365) 8)))) + (Int32.toInt64 (q_wm v (q_el v (-1) 0) (nI 4095) 8)))), (3, .int (nI n)), (0, .ref x)]) hx hb dX4_digest_138 rfl hl (by decide) rfl (fun ls hl => ?_)
              refine lv_ldc2 (v := 31) hx hb hown lkc240 dX4_digest_139 ?_
              refine lv_lload_n hx hb dX4_digest_142 rfl (lv_at hl 0 rfl) ?_
              refine lv_lmul hx hb dX4_digest_143 ?_
              refine lv_aload_n hx hb dX4_digest_144 rfl (lv_at hl 2 rfl) ?_
              refine wl_pV (As := []) (rest := [.long (31 * ((31 * ((31 * (q_hs (v 6) (q_wl v (q_gt v w n 8) n (q_hs (v 5) (q_hs (q_co v z) 3517 11) 3) 8) n)) + (Int32.toInt64 (q_wm v (q_el v (-1) 0) (nI 1365) 8)))) + (Int32.toInt64 (q_wm v (q_el v (-1) 0) (nI 4095) 8))))]) ⟨hx, hb, hml, hown, hts⟩ (m_X4_brokenAt l D cy x sa ja ta h q v ) (cwV 0 hts gX4_digest_X4_brokenAt rfl rfl rfl (by decide +kernel) ⟨Nat.le_of_ble_eq_true rfl, Nat.le_of_ble_eq_true rfl⟩) hK hP [0, 2] rfl rfl rfl rfl rfl rfl hl.1 rfl (Nat.le_of_ble_eq_true rfl) dX4_digest_145 ⟨Nat.le_of_ble_eq_true rfl, Nat.le_of_ble_eq_true rfl⟩ (fun r18 er18 => ?_)
              have er18 : r18 = q_bk v := er18
              subst er18
              refine lv_i2l (v := Int32.toInt64 (q_bk v)) hx hb dX4_digest_148 rfl ?_
              refine lv_ladd hx hb dX4_digest_149 ?_
              refine lv_lstore_n (lv' := [(1, .long ((31 * ((31 * ((31 * (q_hs (v 6) (q_wl v (q_gt v w n 8) n (q_hs (v 5) (q_hs (q_co v z) 3517 11) 3) 8) n)) + (Int32.toInt64 (q_wm v (q_el v (-1) 0) (nI 1365) 8)))) + (Int32.toInt64 (q_wm v (q_el v (-1) 0) (nI 4095) 8)))) + (Int32.toInt64 (q_bk v)))), (3, .int (nI n)), (0, .ref x)]) hx hb dX4_digest_150 rfl hl (by decide) rfl (fun ls hl => ?_)
              refine lv_ldc2 (v := 31) hx hb hown lkc240 dX4_digest_151 ?_
              refine lv_lload_n hx hb dX4_digest_154 rfl (lv_at hl 0 rfl) ?_
              refine lv_lmul hx hb dX4_digest_155 ?_
              refine lv_aload_n hx hb dX4_digest_156 rfl (lv_at hl 2 rfl) ?_
              refine wl_pVd (As := []) (rest := [.long (31 * ((31 * ((31 * ((31 * (q_hs (v 6) (q_wl v (q_gt v w n 8) n (q_hs (v 5) (q_hs (q_co v z) 3517 11) 3) 8) n)) + (Int32.toInt64 (q_wm v (q_el v (-1) 0) (nI 1365) 8)))) + (Int32.toInt64 (q_wm v (q_el v (-1) 0) (nI 4095) 8)))) + (Int32.toInt64 (q_bk v))))]) ⟨hx, hb, hml, hown, hts⟩ (m_X4_brightness l D cy x sa ja ta h q v hnan) (cwV 0 hts gX4_digest_X4_brightness rfl rfl rfl (by decide +kernel) ⟨Nat.le_of_ble_eq_true rfl, Nat.le_of_ble_eq_true rfl⟩) hK hP [0, 2] rfl rfl rfl rfl rfl rfl hl.1 rfl (Nat.le_of_ble_eq_true rfl) dX4_digest_157 ⟨Nat.le_of_ble_eq_true rfl, Nat.le_of_ble_eq_true rfl⟩ (fun r19 er19 => ?_)
              have er19 : r19 = FP.ddiv (FP.i2d (q_st v)) 4645040803167600640 := er19
              subst er19
              refine wl_pSl (As := [.double (FP.ddiv (FP.i2d (q_st v)) 4645040803167600640)]) (rest := [.long (31 * ((31 * ((31 * ((31 * (q_hs (v 6) (q_wl v (q_gt v w n 8) n (q_hs (v 5) (q_hs (q_co v z) 3517 11) 3) 8) n)) + (Int32.toInt64 (q_wm v (q_el v (-1) 0) (nI 1365) 8)))) + (Int32.toInt64 (q_wm v (q_el v (-1) 0) (nI 4095) 8)))) + (Int32.toInt64 (q_bk v))))]) ⟨hx, hb, hml, hown, hts⟩ (m_X4_bitsOf l D cy (FP.ddiv (FP.i2d (q_st v)) 4645040803167600640) B hbits) (va_cwS 1 hts gX4_digest_X4_bitsOf rfl rfl rfl (by decide +kernel) ⟨Nat.le_of_ble_eq_true rfl, Nat.le_of_ble_eq_true rfl⟩) hK hP [] rfl rfl hl.1 rfl (Nat.le_of_ble_eq_true rfl) dX4_digest_160 ⟨Nat.le_of_ble_eq_true rfl, Nat.le_of_ble_eq_true rfl⟩ (fun r20 er20 => ?_)
              replace er20 : B = r20 := er20.symm
              subst er20
              refine lv_ladd hx hb dX4_digest_163 ?_
              refine lv_lstore_n (lv' := [(1, .long ((31 * ((31 * ((31 * ((31 * (q_hs (v 6) (q_wl v (q_gt v w n 8) n (q_hs (v 5) (q_hs (q_co v z) 3517 11) 3) 8) n)) + (Int32.toInt64 (q_wm v (q_el v (-1) 0) (nI 1365) 8)))) + (Int32.toInt64 (q_wm v (q_el v (-1) 0) (nI 4095) 8)))) + (Int32.toInt64 (q_bk v)))) + B)), (3, .int (nI n)), (0, .ref x)]) hx hb dX4_digest_164 rfl hl (by decide) rfl (fun ls hl => ?_)
              refine lv_iconst (v := 0) hx hb dX4_digest_165 (by decide) ?_
              refine lv_istore_n (lv' := [(3, .int 0), (1, .long ((31 * ((31 * ((31 * ((31 * (q_hs (v 6) (q_wl v (q_gt v w n 8) n (q_hs (v 5) (q_hs (q_co v z) 3517 11) 3) 8) n)) + (Int32.toInt64 (q_wm v (q_el v (-1) 0) (nI 1365) 8)))) + (Int32.toInt64 (q_wm v (q_el v (-1) 0) (nI 4095) 8)))) + (Int32.toInt64 (q_bk v)))) + B)), (0, .ref x)]) hx hb dX4_digest_166 rfl hl (by decide) rfl (fun ls hl => ?_)
              suffices K21 : ∀ (n22 : Nat) (i : Nat), 2 - i < n22 → (i ≤ 2) → ∀ (ls : Array Slot) (H : Heap) (locs : List Loc), va_P D vwCl ([([(x, .inr (4, [.ref (sa 0), .ref (ja 0), .ref (ta 0), .ref h, .ref q]))] : va_W), joW cy ja (q_gt v w n 8), stW cy sa v, ([(h, .inr (0, [.ref g, .int (nI z)]))] : va_W), txW cy ta t, ([(q, .inl (cy 3, 2, (.inr (.inr (.inr (.inr f))))))] : va_W)] : List va_W).flatten H → va_D A ([([(x, .inr (4, [.ref (sa 0), .ref (ja 0), .ref (ta 0), .ref h, .ref q]))] : va_W), joW cy ja (q_gt v w n 8), stW cy sa v, ([(h, .inr (0, [.ref g, .int (nI z)]))] : va_W), txW cy ta t, ([(q, .inl (cy 3, 2, (.inr (.inr (.inr (.inr f))))))] : va_W)] : List va_W).flatten → va_S A s.heap H locs → lv_has ls 4 [(3, .int (nI i)), (1, .long (q_hs (fun y => if f y = none then 0 else 1) (31 * (31 * (31 * (31 * q_hs (v 6) (q_wl v (q_gt v w n 8) n (q_hs (v 5) (q_hs (q_co v z) 3517 11) 3) 8) n + (q_wm v (q_el v (-1) 0) (nI 1365) 8).toInt64) + (q_wm v (q_el v (-1) 0) (nI 4095) 8).toInt64) + (q_bk v).toInt64) + B) i)), (0, .ref x)] → W p l e ({ frames := 5, cells := 0, slots := 0, locals := 120 } : Room) s m ([.ref x] : List Value).toArray below meth c H locs 0 0 (MQ below (va_Ql (fun (r : Int64) (bs : List va_W) => r = q_di v (q_gt v w n 8) n z f t k B ∧ bs = [([(x, .inr (4, [.ref (sa 0), .ref (ja 0), .ref (ta 0), .ref h, .ref q]))] : va_W), joW cy ja (q_gt v w n 8), stW cy sa v, ([(h, .inr (0, [.ref g, .int (nI z)]))] : va_W), txW cy ta t, ([(q, .inl (cy 3, 2, (.inr (.inr (.inr (.inr f))))))] : va_W)]) (wl_ib D [([(x, .inr (4, [.ref (sa 0), .ref (ja 0), .ref (ta 0), .ref h, .ref q]))] : va_W), joW cy ja w, stW cy sa v, ([(h, .inr (0, [.ref g, .int (nI z)]))] : va_W), txW cy ta t, ([(q, .inl (cy 3, 2, (.inr (.inr (.inr (.inr f))))))] : va_W)] sz) (va_A ([([(x, .inr (4, [.ref (sa 0), .ref (ja 0), .ref (ta 0), .ref h, .ref q]))] : va_W), joW cy ja w, stW cy sa v, ([(h, .inr (0, [.ref g, .int (nI z)]))] : va_W), txW cy ta t, ([(q, .inl (cy 3, 2, (.inr (.inr (.inr (.inr f))))))] : va_W)] : List va_W).flatten sz)) ([.ref x] : List Value).toArray s 0 0 (va_A ([([(x, .inr (4, [.ref (sa 0), .ref (ja 0), .ref (ta 0), .ref h, .ref q]))] : va_W), joW cy ja w, stW cy sa v, ([(h, .inr (0, [.ref g, .int (nI z)]))] : va_W), txW cy ta t, ([(q, .inl (cy 3, 2, (.inr (.inr (.inr (.inr f))))))] : va_W)] : List va_W).flatten sz)) (F0 m 167 ls []) from K21 (2 + 1) 0 (by omega) (by omega) _ _ _ hP hD hS (lv_sub hl [0, 1, 2] rfl)
              intro n22
              induction n22 with
              | zero => intro i hm; exact absurd hm (Nat.not_lt_zero _)
              | succ n22 ih23 =>
                intro i hm hi ls H locs hP hD hS hl
                refine lv_iload_n hx hb dX4_digest_167 rfl (lv_at hl 0 rfl) ?_
                refine lv_iconst (v := 2) hx hb dX4_digest_168 (by decide) ?_
                refine wl_icmp_ge (tgt := 200) hx hb i 2 dX4_digest_169 (by decide) (by omega) (by omega) (fun c24 => ?_) (fun c24 => ?_)
                · obtain rfl : i = 2 := by omega
                  refine lv_ldc2 (v := 31) hx hb hown lkc240 dX4_digest_200 ?_
                  refine lv_lload_n hx hb dX4_digest_203 rfl (lv_at hl 1 rfl) ?_
                  refine lv_lmul hx hb dX4_digest_204 ?_
                  refine lv_aload_n hx hb dX4_digest_205 rfl (lv_at hl 2 rfl) ?_
                  refine wl_getf (C := RX4) (T := TX4) (N := 5) (ci := 4) (v := .ref (ta 0)) hx hb hts in_X4 hown hK hP 0 0 rfl rfl rfl 2 (by decide) lkf26 rfl rfl dX4_digest_206 ?_
                  refine wl_getf (C := RX3) (T := TX3) (N := 2) (ci := 3) (v := .int (t 1 0)) hx hb hts in_X3 hown hK hP 4 0 rfl rfl rfl 1 (by decide) lkf119 rfl rfl dX4_digest_209 ?_
                  refine wl_top (y := nI k) hk ?_
                  refine lv_i2l (v := Int32.toInt64 (nI k)) hx hb dX4_digest_212 rfl ?_
                  refine lv_ladd hx hb dX4_digest_213 ?_
                  refine lv_lstore_n (lv' := [(1, .long ((31 * (q_hs (fun y => if f y = none then 0 else 1) (31 * (31 * (31 * (31 * q_hs (v 6) (q_wl v (q_gt v w n 8) n (q_hs (v 5) (q_hs (q_co v z) 3517 11) 3) 8) n + (q_wm v (q_el v (-1) 0) (nI 1365) 8).toInt64) + (q_wm v (q_el v (-1) 0) (nI 4095) 8).toInt64) + (q_bk v).toInt64) + B) 2)) + (Int32.toInt64 (nI k)))), (3, .int (nI 2)), (0, .ref x)]) hx hb dX4_digest_214 rfl hl (by decide) rfl (fun ls hl => ?_)
                  refine lv_iconst (v := 0) hx hb dX4_digest_215 (by decide) ?_
                  refine lv_istore_n (lv' := [(3, .int 0), (1, .long ((31 * (q_hs (fun y => if f y = none then 0 else 1) (31 * (31 * (31 * (31 * q_hs (v 6) (q_wl v (q_gt v w n 8) n (q_hs (v 5) (q_hs (q_co v z) 3517 11) 3) 8) n + (q_wm v (q_el v (-1) 0) (nI 1365) 8).toInt64) + (q_wm v (q_el v (-1) 0) (nI 4095) 8).toInt64) + (q_bk v).toInt64) + B) 2)) + (Int32.toInt64 (nI k)))), (0, .ref x)]) hx hb dX4_digest_216 rfl hl (by decide) rfl (fun ls hl => ?_)
                  suffices K25 : ∀ (n26 : Nat) (i : Nat), k - i < n26 → (i ≤ k) → ∀ (ls : Array Slot) (H : Heap) (locs : List Loc), va_P D vwCl ([([(x, .inr (4, [.ref (sa 0), .ref (ja 0), .ref (ta 0), .ref h, .ref q]))] : va_W), joW cy ja (q_gt v w n 8), stW cy sa v, ([(h, .inr (0, [.ref g, .int (nI z)]))] : va_W), txW cy ta t, ([(q, .inl (cy 3, 2, (.inr (.inr (.inr (.inr f))))))] : va_W)] : List va_W).flatten H → va_D A ([([(x, .inr (4, [.ref (sa 0), .ref (ja 0), .ref (ta 0), .ref h, .ref q]))] : va_W), joW cy ja (q_gt v w n 8), stW cy sa v, ([(h, .inr (0, [.ref g, .int (nI z)]))] : va_W), txW cy ta t, ([(q, .inl (cy 3, 2, (.inr (.inr (.inr (.inr f))))))] : va_W)] : List va_W).flatten → va_S A s.heap H locs → lv_has ls 4 [(3, .int (nI i)), (1, .long (q_hs (t 0) (31 * q_hs (fun y => if f y = none then 0 else 1) (31 * (31 * (31 * (31 * q_hs (v 6) (q_wl v (q_gt v w n 8) n (q_hs (v 5) (q_hs (q_co v z) 3517 11) 3) 8) n + (q_wm v (q_el v (-1) 0) (nI 1365) 8).toInt64) + (q_wm v (q_el v (-1) 0) (nI 4095) 8).toInt64) + (q_bk v).toInt64) + B) 2 + (nI k).toInt64) i)), (0, .ref x)] → W p l e ({ frames := 5, cells := 0, slots := 0, locals := 120 } : Room) s m ([.ref x] : List Value).toArray below meth c H locs 0 0 (MQ below (va_Ql (fun (r : Int64) (bs : List va_W) => r = q_di v (q_gt v w n 8) n z f t k B ∧ bs = [([(x, .inr (4, [.ref (sa 0), .ref (ja 0), .ref (ta 0), .ref h, .ref q]))] : va_W), joW cy ja (q_gt v w n 8), stW cy sa v, ([(h, .inr (0, [.ref g, .int (nI z)]))] : va_W), txW cy ta t, ([(q, .inl (cy 3, 2, (.inr (.inr (.inr (.inr f))))))] : va_W)]) (wl_ib D [([(x, .inr (4, [.ref (sa 0), .ref (ja 0), .ref (ta 0), .ref h, .ref q]))] : va_W), joW cy ja w, stW cy sa v, ([(h, .inr (0, [.ref g, .int (nI z)]))] : va_W), txW cy ta t, ([(q, .inl (cy 3, 2, (.inr (.inr (.inr (.inr f))))))] : va_W)] sz) (va_A ([([(x, .inr (4, [.ref (sa 0), .ref (ja 0), .ref (ta 0), .ref h, .ref q]))] : va_W), joW cy ja w, stW cy sa v, ([(h, .inr (0, [.ref g, .int (nI z)]))] : va_W), txW cy ta t, ([(q, .inl (cy 3, 2, (.inr (.inr (.inr (.inr f))))))] : va_W)] : List va_W).flatten sz)) ([.ref x] : List Value).toArray s 0 0 (va_A ([([(x, .inr (4, [.ref (sa 0), .ref (ja 0), .ref (ta 0), .ref h, .ref q]))] : va_W), joW cy ja w, stW cy sa v, ([(h, .inr (0, [.ref g, .int (nI z)]))] : va_W), txW cy ta t, ([(q, .inl (cy 3, 2, (.inr (.inr (.inr (.inr f))))))] : va_W)] : List va_W).flatten sz)) (F0 m 217 ls []) from K25 (k + 1) 0 (by omega) (by omega) _ _ _ hP hD hS (lv_sub hl [0, 1, 2] rfl)
                  intro n26
                  induction n26 with
                  | zero => intro i hm; exact absurd hm (Nat.not_lt_zero _)
                  | succ n26 ih27 =>
                    intro i hm hi ls H locs hP hD hS hl
                    refine lv_iload_n hx hb dX4_digest_217 rfl (lv_at hl 0 rfl) ?_
                    refine lv_aload_n hx hb dX4_digest_218 rfl (lv_at hl 2 rfl) ?_
                    refine wl_getf (C := RX4) (T := TX4) (N := 5) (ci := 4) (v := .ref (ta 0)) hx hb hts in_X4 hown hK hP 0 0 rfl rfl rfl 2 (by decide) lkf26 rfl rfl dX4_digest_219 ?_
                    refine wl_getf (C := RX3) (T := TX3) (N := 2) (ci := 3) (v := .int (t 1 0)) hx hb hts in_X3 hown hK hP 4 0 rfl rfl rfl 1 (by decide) lkf119 rfl rfl dX4_digest_222 ?_
                    refine wl_top (y := nI k) hk ?_
                    refine wl_icmp_ge (tgt := 257) hx hb i k dX4_digest_225 (by decide) (by omega) (by omega) (fun c28 => ?_) (fun c28 => ?_)
                    · have hil : k = i := by omega
                      subst hil
                      refine lv_lload_n hx hb dX4_digest_257 rfl (lv_at hl 1 rfl) ?_
                      exact wl_Rl (bs := [([(x, .inr (4, [.ref (sa 0), .ref (ja 0), .ref (ta 0), .ref h, .ref q]))] : va_W), joW cy ja (q_gt v w n 8), stW cy sa v, ([(h, .inr (0, [.ref g, .int (nI z)]))] : va_W), txW cy ta t, ([(q, .inl (cy 3, 2, (.inr (.inr (.inr (.inr f))))))] : va_W)]) (r := (q_hs (t 0) (31 * q_hs (fun y => if f y = none then 0 else 1) (31 * (31 * (31 * (31 * q_hs (v 6) (q_wl v (q_gt v w n 8) n (q_hs (v 5) (q_hs (q_co v z) 3517 11) 3) 8) n + (q_wm v (q_el v (-1) 0) (nI 1365) 8).toInt64) + (q_wm v (q_el v (-1) 0) (nI 4095) 8).toInt64) + (q_bk v).toInt64) + B) 2 + (nI k).toInt64) k)) hx hb hr hlocks hAe hP hD hS (by exact ⟨rfl, rfl⟩) dX4_digest_258
                    · refine lv_iload_n hx hb dX4_digest_228 rfl (lv_at hl 0 rfl) ?_
                      refine lv_bipush (v := 60) hx hb dX4_digest_229 (by decide) ?_
                      refine wl_icmp_ge (tgt := 257) hx hb i 60 dX4_digest_231 (by decide) (by omega) (by omega) (fun c29 => absurd c29 (by omega)) (fun c29 => ?_)
                      refine lv_ldc2 (v := 31) hx hb hown lkc240 dX4_digest_234 ?_
                      refine lv_lload_n hx hb dX4_digest_237 rfl (lv_at hl 1 rfl) ?_
                      refine lv_lmul hx hb dX4_digest_238 ?_
                      refine lv_aload_n hx hb dX4_digest_239 rfl (lv_at hl 2 rfl) ?_
                      refine wl_getf (C := RX4) (T := TX4) (N := 5) (ci := 4) (v := .ref (ta 0)) hx hb hts in_X4 hown hK hP 0 0 rfl rfl rfl 2 (by decide) lkf26 rfl rfl dX4_digest_240 ?_
                      refine wl_getf (C := RX3) (T := TX3) (N := 2) (ci := 3) (v := .ref (ta 1)) hx hb hts in_X3 hown hK hP 4 0 rfl rfl rfl 0 (by decide) lkf263 rfl rfl dX4_digest_243 ?_
                      refine lv_iload_n hx hb dX4_digest_246 rfl (lv_at hl 0 rfl) ?_
                      refine wl_cald hx hb hK hP 4 1 rfl rfl i (by omega) (Nat.le_of_ble_eq_true rfl) dX4_digest_247 ?_
                      refine lv_i2l (v := Int32.toInt64 (t 0 i)) hx hb dX4_digest_248 rfl ?_
                      refine lv_ladd hx hb dX4_digest_249 ?_
                      refine lv_lstore_n (lv' := [(1, .long ((31 * (q_hs (t 0) (31 * q_hs (fun y => if f y = none then 0 else 1) (31 * (31 * (31 * (31 * q_hs (v 6) (q_wl v (q_gt v w n 8) n (q_hs (v 5) (q_hs (q_co v z) 3517 11) 3) 8) n + (q_wm v (q_el v (-1) 0) (nI 1365) 8).toInt64) + (q_wm v (q_el v (-1) 0) (nI 4095) 8).toInt64) + (q_bk v).toInt64) + B) 2 + (nI k).toInt64) i)) + (Int32.toInt64 (t 0 i)))), (3, .int (nI i)), (0, .ref x)]) hx hb dX4_digest_250 rfl hl (by decide) rfl (fun ls hl => ?_)
                      refine lv_iinc (v := nI (i + 1)) (lv' := [(3, .int (nI (i + 1))), (1, .long ((31 * (q_hs (t 0) (31 * q_hs (fun y => if f y = none then 0 else 1) (31 * (31 * (31 * (31 * q_hs (v 6) (q_wl v (q_gt v w n 8) n (q_hs (v 5) (q_hs (q_co v z) 3517 11) 3) 8) n + (q_wm v (q_el v (-1) 0) (nI 1365) 8).toInt64) + (q_wm v (q_el v (-1) 0) (nI 4095) 8).toInt64) + (q_bk v).toInt64) + B) 2 + (nI k).toInt64) i)) + (Int32.toInt64 (t 0 i)))), (0, .ref x)]) hx hb dX4_digest_251 hl (k := 1) rfl (wl_inc i) (by decide) rfl (fun ls hl => ?_)
                      refine lv_goto (tgt := 217) hx hb dX4_digest_254 (by decide) ?_
                      exact ih27 (i + 1) (by omega) (by omega) _ _ _ hP hD hS (lv_sub hl [0, 1, 2] rfl)
                · refine lv_ldc2 (v := 31) hx hb hown lkc240 dX4_digest_172 ?_
                  refine lv_lload_n hx hb dX4_digest_175 rfl (lv_at hl 1 rfl) ?_
                  refine lv_lmul hx hb dX4_digest_176 ?_
                  refine lv_aload_n hx hb dX4_digest_177 rfl (lv_at hl 2 rfl) ?_
                  refine wl_getf (C := RX4) (T := TX4) (N := 5) (ci := 4) (v := .ref q) hx hb hts in_X4 hown hK hP 0 0 rfl rfl rfl 4 (by decide) lkf37 rfl rfl dX4_digest_178 ?_
                  refine lv_iload_n hx hb dX4_digest_181 rfl (lv_at hl 0 rfl) ?_
                  refine wl_aald hx hb hK hP 5 0 rfl rfl i (by omega) (Nat.le_of_ble_eq_true rfl) dX4_digest_182 ?_
                  have K33 : ∀ (ls : Array Slot) (H : Heap) (locs : List Loc) (v32 : Int32), v32 = (if f i = none then 0 else 1) → va_P D vwCl ([([(x, .inr (4, [.ref (sa 0), .ref (ja 0), .ref (ta 0), .ref h, .ref q]))] : va_W), joW cy ja (q_gt v w n 8), stW cy sa v, ([(h, .inr (0, [.ref g, .int (nI z)]))] : va_W), txW cy ta t, ([(q, .inl (cy 3, 2, (.inr (.inr (.inr (.inr f))))))] : va_W)] : List va_W).flatten H → va_D A ([([(x, .inr (4, [.ref (sa 0), .ref (ja 0), .ref (ta 0), .ref h, .ref q]))] : va_W), joW cy ja (q_gt v w n 8), stW cy sa v, ([(h, .inr (0, [.ref g, .int (nI z)]))] : va_W), txW cy ta t, ([(q, .inl (cy 3, 2, (.inr (.inr (.inr (.inr f))))))] : va_W)] : List va_W).flatten → va_S A s.heap H locs → lv_has ls 4 [(3, .int (nI i)), (0, .ref x)] → W p l e ({ frames := 5, cells := 0, slots := 0, locals := 120 } : Room) s m ([.ref x] : List Value).toArray below meth c H locs 0 0 (MQ below (va_Ql (fun (r : Int64) (bs : List va_W) => r = q_di v (q_gt v w n 8) n z f t k B ∧ bs = [([(x, .inr (4, [.ref (sa 0), .ref (ja 0), .ref (ta 0), .ref h, .ref q]))] : va_W), joW cy ja (q_gt v w n 8), stW cy sa v, ([(h, .inr (0, [.ref g, .int (nI z)]))] : va_W), txW cy ta t, ([(q, .inl (cy 3, 2, (.inr (.inr (.inr (.inr f))))))] : va_W)]) (wl_ib D [([(x, .inr (4, [.ref (sa 0), .ref (ja 0), .ref (ta 0), .ref h, .ref q]))] : va_W), joW cy ja w, stW cy sa v, ([(h, .inr (0, [.ref g, .int (nI z)]))] : va_W), txW cy ta t, ([(q, .inl (cy 3, 2, (.inr (.inr (.inr (.inr f))))))] : va_W)] sz) (va_A ([([(x, .inr (4, [.ref (sa 0), .ref (ja 0), .ref (ta 0), .ref h, .ref q]))] : va_W), joW cy ja w, stW cy sa v, ([(h, .inr (0, [.ref g, .int (nI z)]))] : va_W), txW cy ta t, ([(q, .inl (cy 3, 2, (.inr (.inr (.inr (.inr f))))))] : va_W)] : List va_W).flatten sz)) ([.ref x] : List Value).toArray s 0 0 (va_A ([([(x, .inr (4, [.ref (sa 0), .ref (ja 0), .ref (ta 0), .ref h, .ref q]))] : va_W), joW cy ja w, stW cy sa v, ([(h, .inr (0, [.ref g, .int (nI z)]))] : va_W), txW cy ta t, ([(q, .inl (cy 3, 2, (.inr (.inr (.inr (.inr f))))))] : va_W)] : List va_W).flatten sz)) (F0 m 191 ls [.int v32, .long (31 * (q_hs (fun y => if f y = none then 0 else 1) (31 * (31 * (31 * (31 * q_hs (v 6) (q_wl v (q_gt v w n 8) n (q_hs (v 5) (q_hs (q_co v z) 3517 11) 3) 8) n + (q_wm v (q_el v (-1) 0) (nI 1365) 8).toInt64) + (q_wm v (q_el v (-1) 0) (nI 4095) 8).toInt64) + (q_bk v).toInt64) + B) i))]) := by
                    intro ls H locs v32 ev32 hP hD hS hl
                    refine lv_i2l (v := Int32.toInt64 v32) hx hb dX4_digest_191 rfl ?_
                    refine lv_ladd hx hb dX4_digest_192 ?_
                    refine lv_lstore_n (lv' := [(1, .long ((31 * (q_hs (fun y => if f y = none then 0 else 1) (31 * (31 * (31 * (31 * q_hs (v 6) (q_wl v (q_gt v w n 8) n (q_hs (v 5) (q_hs (q_co v z) 3517 11) 3) 8) n + (q_wm v (q_el v (-1) 0) (nI 1365) 8).toInt64) + (q_wm v (q_el v (-1) 0) (nI 4095) 8).toInt64) + (q_bk v).toInt64) + B) i)) + (Int32.toInt64 v32))), (3, .int (nI i)), (0, .ref x)]) hx hb dX4_digest_193 rfl hl (by decide) rfl (fun ls hl => ?_)
                    refine lv_iinc (v := nI (i + 1)) (lv' := [(3, .int (nI (i + 1))), (1, .long ((31 * (q_hs (fun y => if f y = none then 0 else 1) (31 * (31 * (31 * (31 * q_hs (v 6) (q_wl v (q_gt v w n 8) n (q_hs (v 5) (q_hs (q_co v z) 3517 11) 3) 8) n + (q_wm v (q_el v (-1) 0) (nI 1365) 8).toInt64) + (q_wm v (q_el v (-1) 0) (nI 4095) 8).toInt64) + (q_bk v).toInt64) + B) i)) + (Int32.toInt64 v32))), (0, .ref x)]) hx hb dX4_digest_194 hl (k := 1) rfl (wl_inc i) (by decide) rfl (fun ls hl => ?_)
                    refine lv_goto (tgt := 167) hx hb dX4_digest_197 (by decide) ?_
                    subst ev32
                    exact ih23 (i + 1) (by omega) (by omega) _ _ _ hP hD hS (lv_sub hl [0, 1, 2] rfl)
                  refine wl_ifnonnull (f := f i) (tgt := 190) hx hb dX4_digest_183 (by decide) (fun c30 => ?_) (fun a31 c30 => ?_)
                  · refine lv_iconst (v := 0) hx hb dX4_digest_186 (by decide) ?_
                    refine lv_goto (tgt := 191) hx hb dX4_digest_187 (by decide) ?_
                    exact K33 _ _ _ 0 (by rw [if_pos c30]) hP hD hS (lv_sub hl [0, 2] rfl)
                  · refine lv_iconst (v := 1) hx hb dX4_digest_190 (by decide) ?_
                    exact K33 _ _ _ 1 (by rw [if_neg c30]) hP hD hS (lv_sub hl [0, 2] rfl)
            · refine lv_iload_n hx hb dX4_digest_80 rfl (lv_at hl 0 rfl) ?_
              refine lv_bipush (v := 120) hx hb dX4_digest_81 (by decide) ?_
              refine wl_icmp_ge (tgt := 109) hx hb i 120 dX4_digest_83 (by decide) (by omega) (by omega) (fun c34 => absurd c34 (by omega)) (fun c34 => ?_)
              refine lv_ldc2 (v := 31) hx hb hown lkc240 dX4_digest_86 ?_
              refine lv_lload_n hx hb dX4_digest_89 rfl (lv_at hl 1 rfl) ?_
              refine lv_lmul hx hb dX4_digest_90 ?_
              refine lv_aload_n hx hb dX4_digest_91 rfl (lv_at hl 2 rfl) ?_
              refine wl_getf (C := RX4) (T := TX4) (N := 5) (ci := 4) (v := .ref (sa 0)) hx hb hts in_X4 hown hK hP 0 0 rfl rfl rfl 0 (by decide) lkf10 rfl rfl dX4_digest_92 ?_
              refine wl_getf (C := RX2) (T := TX2) (N := 13) (ci := 2) (v := .ref (sa 7)) hx hb hts in_X2 hown hK hP 2 0 rfl rfl rfl 6 (by decide) lkf195 rfl rfl dX4_digest_95 ?_
              refine lv_iload_n hx hb dX4_digest_98 rfl (lv_at hl 0 rfl) ?_
              refine wl_iald hx hb hK hP 2 7 rfl rfl i (by omega) (Nat.le_of_ble_eq_true rfl) dX4_digest_99 ?_
              refine lv_i2l (v := Int32.toInt64 (v 6 i)) hx hb dX4_digest_100 rfl ?_
              refine lv_ladd hx hb dX4_digest_101 ?_
              refine lv_lstore_n (lv' := [(1, .long ((31 * (q_hs (v 6) (q_wl v (q_gt v w n 8) n (q_hs (v 5) (q_hs (q_co v z) 3517 11) 3) 8) i)) + (Int32.toInt64 (v 6 i)))), (3, .int (nI i)), (0, .ref x)]) hx hb dX4_digest_102 rfl hl (by decide) rfl (fun ls hl => ?_)
              refine lv_iinc (v := nI (i + 1)) (lv' := [(3, .int (nI (i + 1))), (1, .long ((31 * (q_hs (v 6) (q_wl v (q_gt v w n 8) n (q_hs (v 5) (q_hs (q_co v z) 3517 11) 3) 8) i)) + (Int32.toInt64 (v 6 i)))), (0, .ref x)]) hx hb dX4_digest_103 hl (k := 1) rfl (wl_inc i) (by decide) rfl (fun ls hl => ?_)
              refine lv_goto (tgt := 69) hx hb dX4_digest_106 (by decide) ?_
              exact ih14 (i + 1) (by omega) (by omega) _ _ _ hP hD hS (lv_sub hl [0, 1, 2] rfl)
        · refine lv_ldc2 (v := 31) hx hb hown lkc240 dX4_digest_38 ?_
          refine lv_lload_n hx hb dX4_digest_41 rfl (lv_at hl 1 rfl) ?_
          refine lv_lmul hx hb dX4_digest_42 ?_
          refine lv_aload_n hx hb dX4_digest_43 rfl (lv_at hl 2 rfl) ?_
          refine wl_getf (C := RX4) (T := TX4) (N := 5) (ci := 4) (v := .ref (sa 0)) hx hb hts in_X4 hown hK hP 0 0 rfl rfl rfl 0 (by decide) lkf10 rfl rfl dX4_digest_44 ?_
          refine wl_getf (C := RX2) (T := TX2) (N := 13) (ci := 2) (v := .ref (sa 6)) hx hb hts in_X2 hown hK hP 2 0 rfl rfl rfl 5 (by decide) lkf83 rfl rfl dX4_digest_47 ?_
          refine lv_iload_n hx hb dX4_digest_50 rfl (lv_at hl 0 rfl) ?_
          refine wl_iald hx hb hK hP 2 6 rfl rfl i (by omega) (Nat.le_of_ble_eq_true rfl) dX4_digest_51 ?_
          refine lv_i2l (v := Int32.toInt64 (v 5 i)) hx hb dX4_digest_52 rfl ?_
          refine lv_ladd hx hb dX4_digest_53 ?_
          refine lv_lstore_n (lv' := [(1, .long ((31 * (q_hs (v 5) (q_hs (q_co v z) 3517 11) i)) + (Int32.toInt64 (v 5 i)))), (3, .int (nI i)), (0, .ref x)]) hx hb dX4_digest_54 rfl hl (by decide) rfl (fun ls hl => ?_)
          refine lv_iinc (v := nI (i + 1)) (lv' := [(3, .int (nI (i + 1))), (1, .long ((31 * (q_hs (v 5) (q_hs (q_co v z) 3517 11) i)) + (Int32.toInt64 (v 5 i)))), (0, .ref x)]) hx hb dX4_digest_55 hl (k := 1) rfl (wl_inc i) (by decide) rfl (fun ls hl => ?_)
          refine lv_goto (tgt := 33) hx hb dX4_digest_58 (by decide) ?_
          exact ih7 (i + 1) (by omega) (by omega) _  (lv_sub hl [0, 1, 2] rfl)
    · refine lv_ldc2 (v := 31) hx hb hown lkc240 dX4_digest_12 ?_
      refine lv_lload_n hx hb dX4_digest_15 rfl (lv_at hl 1 rfl) ?_
      refine lv_lmul hx hb dX4_digest_16 ?_
      refine lv_aload_n hx hb dX4_digest_17 rfl (lv_at hl 2 rfl) ?_
      refine lv_iload_n hx hb dX4_digest_18 rfl (lv_at hl 0 rfl) ?_
      refine wl_pV (As := [.int (nI i)]) (rest := [.long (31 * (q_hs (q_co v z) 3517 i))]) ⟨hx, hb, hml, hown, hts⟩ (m_X4_count l D cy x sa ja ta h q v z i g (by omega)) (cwV 1 hts gX4_digest_X4_count rfl rfl rfl (by decide +kernel) ⟨Nat.le_of_ble_eq_true rfl, Nat.le_of_ble_eq_true rfl⟩) hK hP [0, 2, 3] rfl rfl rfl rfl rfl rfl hl.1 rfl (Nat.le_of_ble_eq_true rfl) dX4_digest_19 ⟨Nat.le_of_ble_eq_true rfl, Nat.le_of_ble_eq_true rfl⟩ (fun r35 er35 => ?_)
      have er35 : r35 = q_co v z i := er35
      subst er35
      refine lv_i2l (v := Int32.toInt64 (q_co v z i)) hx hb dX4_digest_22 rfl ?_
      refine lv_ladd hx hb dX4_digest_23 ?_
      refine lv_lstore_n (lv' := [(1, .long ((31 * (q_hs (q_co v z) 3517 i)) + (Int32.toInt64 (q_co v z i)))), (3, .int (nI i)), (0, .ref x)]) hx hb dX4_digest_24 rfl hl (by decide) rfl (fun ls hl => ?_)
      refine lv_iinc (v := nI (i + 1)) (lv' := [(3, .int (nI (i + 1))), (1, .long ((31 * (q_hs (q_co v z) 3517 i)) + (Int32.toInt64 (q_co v z i)))), (0, .ref x)]) hx hb dX4_digest_25 hl (k := 1) rfl (wl_inc i) (by decide) rfl (fun ls hl => ?_)
      refine lv_goto (tgt := 6) hx hb dX4_digest_28 (by decide) ?_
      exact ih3 (i + 1) (by omega) (by omega) _  (lv_sub hl [0, 1, 2] rfl)
set_option maxHeartbeats 4000000 in
set_option maxRecDepth 100000 in
theorem m_X4_init (l : Launch) (D : va_G) (cy : Nat → ClassId) (x : Nat) (sz : Nat)  : Met l yX4_init wsX4_init ({ frames := 2, cells := 17, slots := 390, locals := 32 } : Room) (wl_ic D cy (wl_E) [([(x, .inr (4, [.null, .null, .null, .null, .null]))] : va_W)] sz [.ref x]) (va_Qv (fun (bs : List va_W) => ∃ (sa ja ta : Nat → Nat) (h g q : Nat), bs = [([(x, .inr (4, [.ref (sa 0), .ref (ja 0), .ref (ta 0), .ref h, .ref q]))] : va_W), stW cy sa q_s0, joW cy ja q_z0, txW cy ta q_z0, ([(h, .inr (0, [.ref g, .int (nI 0)]))] : va_W), ([(g, .inl (cy 3, 6, (.inr (.inr (.inr (.inr (fun _ => none)))))))] : va_W), ([(q, .inl (cy 3, 2, (.inr (.inr (.inr (.inr (fun _ => none)))))))] : va_W)]) (wl_ib D [([(x, .inr (4, [.null, .null, .null, .null, .null]))] : va_W)] sz) (va_A ([([(x, .inr (4, [.null, .null, .null, .null, .null]))] : va_W)] : List va_W).flatten sz)) 17 390 (va_A ([([(x, .inr (4, [.null, .null, .null, .null, .null]))] : va_W)] : List va_W).flatten sz) := by
  refine wl_ofI (cc := cX4_init) (maxL := 1) (ret := none) (by decide) rfl (Nat.le_of_ble_eq_true rfl) ?_
  intro p e s m below meth c ls A hx hb hr hts hown hlocks hml hnm hsz hAe hP hK hD hX hA hS hl
  have hl : lv_has ls 1 [(0, .ref x)] := hl
  have lkf10 := hts (.fieldLink RX4 10 "WireLamps" "state" "LWireLamps$State;") (by decide +kernel)
  have lkf19 := hts (.fieldLink RX4 19 "WireLamps" "journey" "LWireLamps$Journey;") (by decide +kernel)
  have lkf26 := hts (.fieldLink RX4 26 "WireLamps" "text" "LWireLamps$Text;") (by decide +kernel)
  have lkf33 := hts (.fieldLink RX4 33 "WireLamps" "history" "LWireLamps$History;") (by decide +kernel)
  have lkf37 := hts (.fieldLink RX4 37 "WireLamps" "slots" "[LWireLamps$State;") (by decide +kernel)
  have lki_X0 := hts (.instantiable RX0 2) (by decide +kernel)
  have lki_X1 := hts (.instantiable RX1 6) (by decide +kernel)
  have lki_X2 := hts (.instantiable RX2 13) (by decide +kernel)
  have lki_X3 := hts (.instantiable RX3 2) (by decide +kernel)
  have lkj_X0 := hts (.initialized RX0) (by decide +kernel)
  have lkj_X1 := hts (.initialized RX1) (by decide +kernel)
  have lkj_X2 := hts (.initialized RX2) (by decide +kernel)
  have lkj_X3 := hts (.initialized RX3) (by decide +kernel)
  have lkk16 := hts (.classLink RX4 16 RX1) (by decide +kernel)
  have lkk23 := hts (.classLink RX4 23 RX3) (by decide +kernel)
  have lkk30 := hts (.classLink RX4 30 RX0) (by decide +kernel)
  have lkk7 := hts (.classLink RX4 7 RX2) (by decide +kernel)
  have in_X0 : ∀ w ∈ u_ws RX0 TX0 2, w ∈ wsX4_init := by decide +kernel
  have in_X1 : ∀ w ∈ u_ws RX1 TX1 6, w ∈ wsX4_init := by decide +kernel
  have in_X2 : ∀ w ∈ u_ws RX2 TX2 13, w ∈ wsX4_init := by decide +kernel
  have in_X3 : ∀ w ∈ u_ws RX3 TX3 2, w ∈ wsX4_init := by decide +kernel
  have in_X4 : ∀ w ∈ u_ws RX4 TX4 5, w ∈ wsX4_init := by decide +kernel
  refine lv_aload_n hx hb dX4_init_0 rfl (lv_at hl 0 rfl) ?_
  refine W.objInit hx hb hown (hts (.methodLink RX4 1 objectInit) (by decide +kernel)) (hts (.instanceMethod objectInit) (by decide +kernel)) (hts (.code objectInit ⟨#[0xb1]⟩ 1 none) (by decide +kernel)) rfl (by rw [hml]; exact hl.1) rfl dX4_init_1 (Nat.le_of_ble_eq_true rfl) (Nat.le_of_ble_eq_true rfl) ?_
  refine W.eq (g2 := F0 m 4 ls []) rfl ?_
  refine lv_aload_n hx hb dX4_init_4 rfl (lv_at hl 0 rfl) ?_
  refine wl_new (C := RX2) (T := TX2) (N := 13) (ci := 2) hx hb hts in_X2 tyX2 tyX2_ok hown lkk7 lki_X2 lkj_X2 hK hP hD hS hA rfl [.null, .null, .null, .null, .null, .null, .null, .int 0, .int 0, .int 0, .int 0, .int 0, .int 0] (by decide +kernel) (Nat.le_of_ble_eq_true rfl) (Nat.le_of_ble_eq_true rfl) dX4_init_5 (fun q1 H hP hD hS => ?_)
  refine W.widen (k := 1) (n := 13) (Nat.le_refl _) (Nat.le_refl _) ?_
  have hP : va_P D vwCl ([([(x, .inr (4, [.null, .null, .null, .null, .null]))] : va_W), ([(q1, .inr (2, [.null, .null, .null, .null, .null, .null, .null, .int 0, .int 0, .int 0, .int 0, .int 0, .int 0]))] : va_W)] : List va_W).flatten H := hP
  have hD : va_D A ([([(x, .inr (4, [.null, .null, .null, .null, .null]))] : va_W), ([(q1, .inr (2, [.null, .null, .null, .null, .null, .null, .null, .int 0, .int 0, .int 0, .int 0, .int 0, .int 0]))] : va_W)] : List va_W).flatten := hD
  refine lv_dup hx hb dX4_init_8 rfl ?_
  have hP := wl_Po (bs' := [([(q1, .inr (2, [.null, .null, .null, .null, .null, .null, .null, .int 0, .int 0, .int 0, .int 0, .int 0, .int 0]))] : va_W), ([(x, .inr (4, [.null, .null, .null, .null, .null]))] : va_W)]) [1, 0] 2 rfl (by decide) rfl hP
  have hD := wl_Do (bs' := [([(q1, .inr (2, [.null, .null, .null, .null, .null, .null, .null, .int 0, .int 0, .int 0, .int 0, .int 0, .int 0]))] : va_W), ([(x, .inr (4, [.null, .null, .null, .null, .null]))] : va_W)]) [1, 0] 2 rfl (by decide) rfl hD
  refine wl_iIN (host := "WireLamps") (As := []) (rest := [.ref q1, .ref x]) (bsC := [([(q1, .inr (2, [.null, .null, .null, .null, .null, .null, .null, .int 0, .int 0, .int 0, .int 0, .int 0, .int 0]))] : va_W)]) (bsR := [([(x, .inr (4, [.null, .null, .null, .null, .null]))] : va_W)]) ⟨hx, hb, hml, hown, hts⟩ (m_X2_init l D cy q1 H.size) ⟨va_cnB 0 hts gX4_init_X2_init_n9 rfl rfl rfl hX.2.1 (hts (.initialized RX2) (by decide +kernel)) (by decide +kernel) ⟨Nat.le_of_ble_eq_true rfl, Nat.le_of_ble_eq_true rfl⟩, rfl, hts (.instanceMethod yX2_init) (by decide +kernel)⟩ wl_xT (fun _ _ _ => trivial) hK hP hD hS hA rfl hl.1 rfl (Nat.le_of_ble_eq_true rfl) dX4_init_9 ⟨Nat.le_of_ble_eq_true rfl, Nat.le_of_ble_eq_true rfl⟩ (fun bs2 H locs e3 _ _ hPn hDn hS => ?_)
  obtain ⟨a4, e5, e3⟩ := e3
  have e3 : bs2 = [stW cy a4 q_s0] := e3
  subst e3
  subst e5
  have hP : va_P D vwCl ([stW cy a4 q_s0, ([(x, .inr (4, [.null, .null, .null, .null, .null]))] : va_W)] : List va_W).flatten H := hPn
  have hD : va_D A ([stW cy a4 q_s0, ([(x, .inr (4, [.null, .null, .null, .null, .null]))] : va_W)] : List va_W).flatten := hDn
  refine W.widen (k := 8) (n := 176) (Nat.le_refl _) (Nat.le_refl _) ?_
  refine wl_putF (C := RX4) (T := TX4) (N := 5) (ci := 4) (v := .ref (a4 0)) hx hb hts in_X4 tyX4 tyX4_ok nmX4 hown hK hP hD hS 1 0 rfl rfl rfl 0 (by decide) lkf10 rfl rfl hnm rfl rfl rfl (Nat.le_of_ble_eq_true rfl) dX4_init_12 (fun H locs hP hD hS => ?_)
  have hP : va_P D vwCl ([stW cy a4 q_s0, ([(x, .inr (4, [.ref (a4 0), .null, .null, .null, .null]))] : va_W)] : List va_W).flatten H := hP
  have hD : va_D A ([stW cy a4 q_s0, ([(x, .inr (4, [.ref (a4 0), .null, .null, .null, .null]))] : va_W)] : List va_W).flatten := hD
  refine lv_aload_n hx hb dX4_init_15 rfl (lv_at hl 0 rfl) ?_
  refine wl_new (C := RX1) (T := TX1) (N := 6) (ci := 1) hx hb hts in_X1 tyX1 tyX1_ok hown lkk16 lki_X1 lkj_X1 hK hP hD hS hA rfl [.null, .null, .int 0, .null, .int 0, .int 0] (by decide +kernel) (Nat.le_of_ble_eq_true rfl) (Nat.le_of_ble_eq_true rfl) dX4_init_16 (fun q6 H hP hD hS => ?_)
  refine W.widen (k := 9) (n := 182) (Nat.le_refl _) (Nat.le_refl _) ?_
  have hP : va_P D vwCl ([stW cy a4 q_s0, ([(x, .inr (4, [.ref (a4 0), .null, .null, .null, .null]))] : va_W), ([(q6, .inr (1, [.null, .null, .int 0, .null, .int 0, .int 0]))] : va_W)] : List va_W).flatten H := hP
  have hD : va_D A ([stW cy a4 q_s0, ([(x, .inr (4, [.ref (a4 0), .null, .null, .null, .null]))] : va_W), ([(q6, .inr (1, [.null, .null, .int 0, .null, .int 0, .int 0]))] : va_W)] : List va_W).flatten := hD
  refine lv_dup hx hb dX4_init_19 rfl ?_
  have hP := wl_Po (bs' := [([(q6, .inr (1, [.null, .null, .int 0, .null, .int 0, .int 0]))] : va_W), stW cy a4 q_s0, ([(x, .inr (4, [.ref (a4 0), .null, .null, .null, .null]))] : va_W)]) [2, 0, 1] 3 rfl (by decide) rfl hP
  have hD := wl_Do (bs' := [([(q6, .inr (1, [.null, .null, .int 0, .null, .int 0, .int 0]))] : va_W), stW cy a4 q_s0, ([(x, .inr (4, [.ref (a4 0), .null, .null, .null, .null]))] : va_W)]) [2, 0, 1] 3 rfl (by decide) rfl hD
  refine wl_iIN (host := "WireLamps") (As := []) (rest := [.ref q6, .ref x]) (bsC := [([(q6, .inr (1, [.null, .null, .int 0, .null, .int 0, .int 0]))] : va_W)]) (bsR := [stW cy a4 q_s0, ([(x, .inr (4, [.ref (a4 0), .null, .null, .null, .null]))] : va_W)]) ⟨hx, hb, hml, hown, hts⟩ (m_X1_init l D cy q6 H.size) ⟨va_cnB 0 hts gX4_init_X1_init_n18 rfl rfl rfl hX.2.2.1 (hts (.initialized RX1) (by decide +kernel)) (by decide +kernel) ⟨Nat.le_of_ble_eq_true rfl, Nat.le_of_ble_eq_true rfl⟩, rfl, hts (.instanceMethod yX1_init) (by decide +kernel)⟩ wl_xT (fun _ _ _ => trivial) hK hP hD hS hA rfl hl.1 rfl (Nat.le_of_ble_eq_true rfl) dX4_init_20 ⟨Nat.le_of_ble_eq_true rfl, Nat.le_of_ble_eq_true rfl⟩ (fun bs7 H locs e8 _ _ hPn hDn hS => ?_)
  obtain ⟨a9, e10, e8⟩ := e8
  have e8 : bs7 = [joW cy a9 q_z0] := e8
  subst e8
  subst e10
  have hP : va_P D vwCl ([joW cy a9 q_z0, stW cy a4 q_s0, ([(x, .inr (4, [.ref (a4 0), .null, .null, .null, .null]))] : va_W)] : List va_W).flatten H := hPn
  have hD : va_D A ([joW cy a9 q_z0, stW cy a4 q_s0, ([(x, .inr (4, [.ref (a4 0), .null, .null, .null, .null]))] : va_W)] : List va_W).flatten := hDn
  refine W.widen (k := 12) (n := 318) (Nat.le_refl _) (Nat.le_refl _) ?_
  refine wl_putF (C := RX4) (T := TX4) (N := 5) (ci := 4) (v := .ref (a9 0)) hx hb hts in_X4 tyX4 tyX4_ok nmX4 hown hK hP hD hS 2 0 rfl rfl rfl 1 (by decide) lkf19 rfl rfl hnm rfl rfl rfl (Nat.le_of_ble_eq_true rfl) dX4_init_23 (fun H locs hP hD hS => ?_)
  have hP : va_P D vwCl ([joW cy a9 q_z0, stW cy a4 q_s0, ([(x, .inr (4, [.ref (a4 0), .ref (a9 0), .null, .null, .null]))] : va_W)] : List va_W).flatten H := hP
  have hD : va_D A ([joW cy a9 q_z0, stW cy a4 q_s0, ([(x, .inr (4, [.ref (a4 0), .ref (a9 0), .null, .null, .null]))] : va_W)] : List va_W).flatten := hD
  refine lv_aload_n hx hb dX4_init_26 rfl (lv_at hl 0 rfl) ?_
  refine wl_new (C := RX3) (T := TX3) (N := 2) (ci := 3) hx hb hts in_X3 tyX3 tyX3_ok hown lkk23 lki_X3 lkj_X3 hK hP hD hS hA rfl [.null, .int 0] (by decide +kernel) (Nat.le_of_ble_eq_true rfl) (Nat.le_of_ble_eq_true rfl) dX4_init_27 (fun q11 H hP hD hS => ?_)
  refine W.widen (k := 13) (n := 320) (Nat.le_refl _) (Nat.le_refl _) ?_
  have hP : va_P D vwCl ([joW cy a9 q_z0, stW cy a4 q_s0, ([(x, .inr (4, [.ref (a4 0), .ref (a9 0), .null, .null, .null]))] : va_W), ([(q11, .inr (3, [.null, .int 0]))] : va_W)] : List va_W).flatten H := hP
  have hD : va_D A ([joW cy a9 q_z0, stW cy a4 q_s0, ([(x, .inr (4, [.ref (a4 0), .ref (a9 0), .null, .null, .null]))] : va_W), ([(q11, .inr (3, [.null, .int 0]))] : va_W)] : List va_W).flatten := hD
  refine lv_dup hx hb dX4_init_30 rfl ?_
  have hP := wl_Po (bs' := [([(q11, .inr (3, [.null, .int 0]))] : va_W), joW cy a9 q_z0, stW cy a4 q_s0, ([(x, .inr (4, [.ref (a4 0), .ref (a9 0), .null, .null, .null]))] : va_W)]) [3, 0, 1, 2] 4 rfl (by decide) rfl hP
  have hD := wl_Do (bs' := [([(q11, .inr (3, [.null, .int 0]))] : va_W), joW cy a9 q_z0, stW cy a4 q_s0, ([(x, .inr (4, [.ref (a4 0), .ref (a9 0), .null, .null, .null]))] : va_W)]) [3, 0, 1, 2] 4 rfl (by decide) rfl hD
  refine wl_iIN (host := "WireLamps") (As := []) (rest := [.ref q11, .ref x]) (bsC := [([(q11, .inr (3, [.null, .int 0]))] : va_W)]) (bsR := [joW cy a9 q_z0, stW cy a4 q_s0, ([(x, .inr (4, [.ref (a4 0), .ref (a9 0), .null, .null, .null]))] : va_W)]) ⟨hx, hb, hml, hown, hts⟩ (m_X3_init l D cy q11 H.size) ⟨va_cnB 0 hts gX4_init_X3_init_n25 rfl rfl rfl hX.2.2.2.1 (hts (.initialized RX3) (by decide +kernel)) (by decide +kernel) ⟨Nat.le_of_ble_eq_true rfl, Nat.le_of_ble_eq_true rfl⟩, rfl, hts (.instanceMethod yX3_init) (by decide +kernel)⟩ wl_xT (fun _ _ _ => trivial) hK hP hD hS hA rfl hl.1 rfl (Nat.le_of_ble_eq_true rfl) dX4_init_31 ⟨Nat.le_of_ble_eq_true rfl, Nat.le_of_ble_eq_true rfl⟩ (fun bs12 H locs e13 _ _ hPn hDn hS => ?_)
  obtain ⟨a14, e15, e13⟩ := e13
  have e13 : bs12 = [txW cy a14 q_z0] := e13
  subst e13
  subst e15
  have hP : va_P D vwCl ([txW cy a14 q_z0, joW cy a9 q_z0, stW cy a4 q_s0, ([(x, .inr (4, [.ref (a4 0), .ref (a9 0), .null, .null, .null]))] : va_W)] : List va_W).flatten H := hPn
  have hD : va_D A ([txW cy a14 q_z0, joW cy a9 q_z0, stW cy a4 q_s0, ([(x, .inr (4, [.ref (a4 0), .ref (a9 0), .null, .null, .null]))] : va_W)] : List va_W).flatten := hDn
  refine W.widen (k := 14) (n := 380) (Nat.le_refl _) (Nat.le_refl _) ?_
  refine wl_putF (C := RX4) (T := TX4) (N := 5) (ci := 4) (v := .ref (a14 0)) hx hb hts in_X4 tyX4 tyX4_ok nmX4 hown hK hP hD hS 3 0 rfl rfl rfl 2 (by decide) lkf26 rfl rfl hnm rfl rfl rfl (Nat.le_of_ble_eq_true rfl) dX4_init_34 (fun H locs hP hD hS => ?_)
  have hP : va_P D vwCl ([txW cy a14 q_z0, joW cy a9 q_z0, stW cy a4 q_s0, ([(x, .inr (4, [.ref (a4 0), .ref (a9 0), .ref (a14 0), .null, .null]))] : va_W)] : List va_W).flatten H := hP
  have hD : va_D A ([txW cy a14 q_z0, joW cy a9 q_z0, stW cy a4 q_s0, ([(x, .inr (4, [.ref (a4 0), .ref (a9 0), .ref (a14 0), .null, .null]))] : va_W)] : List va_W).flatten := hD
  refine lv_aload_n hx hb dX4_init_37 rfl (lv_at hl 0 rfl) ?_
  refine wl_new (C := RX0) (T := TX0) (N := 2) (ci := 0) hx hb hts in_X0 tyX0 tyX0_ok hown lkk30 lki_X0 lkj_X0 hK hP hD hS hA rfl [.null, .int 0] (by decide +kernel) (Nat.le_of_ble_eq_true rfl) (Nat.le_of_ble_eq_true rfl) dX4_init_38 (fun q16 H hP hD hS => ?_)
  refine W.widen (k := 15) (n := 382) (Nat.le_refl _) (Nat.le_refl _) ?_
  have hP : va_P D vwCl ([txW cy a14 q_z0, joW cy a9 q_z0, stW cy a4 q_s0, ([(x, .inr (4, [.ref (a4 0), .ref (a9 0), .ref (a14 0), .null, .null]))] : va_W), ([(q16, .inr (0, [.null, .int 0]))] : va_W)] : List va_W).flatten H := hP
  have hD : va_D A ([txW cy a14 q_z0, joW cy a9 q_z0, stW cy a4 q_s0, ([(x, .inr (4, [.ref (a4 0), .ref (a9 0), .ref (a14 0), .null, .null]))] : va_W), ([(q16, .inr (0, [.null, .int 0]))] : va_W)] : List va_W).flatten := hD
  refine lv_dup hx hb dX4_init_41 rfl ?_
  have hP := wl_Po (bs' := [([(q16, .inr (0, [.null, .int 0]))] : va_W), txW cy a14 q_z0, joW cy a9 q_z0, stW cy a4 q_s0, ([(x, .inr (4, [.ref (a4 0), .ref (a9 0), .ref (a14 0), .null, .null]))] : va_W)]) [4, 0, 1, 2, 3] 5 rfl (by decide) rfl hP
  have hD := wl_Do (bs' := [([(q16, .inr (0, [.null, .int 0]))] : va_W), txW cy a14 q_z0, joW cy a9 q_z0, stW cy a4 q_s0, ([(x, .inr (4, [.ref (a4 0), .ref (a9 0), .ref (a14 0), .null, .null]))] : va_W)]) [4, 0, 1, 2, 3] 5 rfl (by decide) rfl hD
  refine wl_iIN (host := "WireLamps") (As := []) (rest := [.ref q16, .ref x]) (bsC := [([(q16, .inr (0, [.null, .int 0]))] : va_W)]) (bsR := [txW cy a14 q_z0, joW cy a9 q_z0, stW cy a4 q_s0, ([(x, .inr (4, [.ref (a4 0), .ref (a9 0), .ref (a14 0), .null, .null]))] : va_W)]) ⟨hx, hb, hml, hown, hts⟩ (m_X0_init l D cy q16 H.size) ⟨va_cnB 0 hts gX4_init_X0_init_n32 rfl rfl rfl hX.2.2.2.2.1 (hts (.initialized RX0) (by decide +kernel)) (by decide +kernel) ⟨Nat.le_of_ble_eq_true rfl, Nat.le_of_ble_eq_true rfl⟩, rfl, hts (.instanceMethod yX0_init) (by decide +kernel)⟩ wl_E_b (fun U _ hW => wl_E_w hW hX) hK hP hD hS hA rfl hl.1 rfl (Nat.le_of_ble_eq_true rfl) dX4_init_42 ⟨Nat.le_of_ble_eq_true rfl, Nat.le_of_ble_eq_true rfl⟩ (fun bs17 H locs e18 _ _ hPn hDn hS => ?_)
  obtain ⟨a19, e18⟩ := e18
  have e18 : bs17 = [([(q16, .inr (0, [.ref a19, .int 0]))] : va_W), ([(a19, .inl (cy 3, 6, (.inr (.inr (.inr (.inr (fun _ => none)))))))] : va_W)] := e18
  subst e18
  have hP : va_P D vwCl ([([(q16, .inr (0, [.ref a19, .int 0]))] : va_W), ([(a19, .inl (cy 3, 6, (.inr (.inr (.inr (.inr (fun _ => none)))))))] : va_W), txW cy a14 q_z0, joW cy a9 q_z0, stW cy a4 q_s0, ([(x, .inr (4, [.ref (a4 0), .ref (a9 0), .ref (a14 0), .null, .null]))] : va_W)] : List va_W).flatten H := hPn
  have hD : va_D A ([([(q16, .inr (0, [.ref a19, .int 0]))] : va_W), ([(a19, .inl (cy 3, 6, (.inr (.inr (.inr (.inr (fun _ => none)))))))] : va_W), txW cy a14 q_z0, joW cy a9 q_z0, stW cy a4 q_s0, ([(x, .inr (4, [.ref (a4 0), .ref (a9 0), .ref (a14 0), .null, .null]))] : va_W)] : List va_W).flatten := hDn
  refine W.widen (k := 16) (n := 388) (Nat.le_refl _) (Nat.le_refl _) ?_
  refine wl_putF (C := RX4) (T := TX4) (N := 5) (ci := 4) (v := .ref q16) hx hb hts in_X4 tyX4 tyX4_ok nmX4 hown hK hP hD hS 5 0 rfl rfl rfl 3 (by decide) lkf33 rfl rfl hnm rfl rfl rfl (Nat.le_of_ble_eq_true rfl) dX4_init_45 (fun H locs hP hD hS => ?_)
  have hP : va_P D vwCl ([([(q16, .inr (0, [.ref a19, .int 0]))] : va_W), ([(a19, .inl (cy 3, 6, (.inr (.inr (.inr (.inr (fun _ => none)))))))] : va_W), txW cy a14 q_z0, joW cy a9 q_z0, stW cy a4 q_s0, ([(x, .inr (4, [.ref (a4 0), .ref (a9 0), .ref (a14 0), .ref q16, .null]))] : va_W)] : List va_W).flatten H := hP
  have hD : va_D A ([([(q16, .inr (0, [.ref a19, .int 0]))] : va_W), ([(a19, .inl (cy 3, 6, (.inr (.inr (.inr (.inr (fun _ => none)))))))] : va_W), txW cy a14 q_z0, joW cy a9 q_z0, stW cy a4 q_s0, ([(x, .inr (4, [.ref (a4 0), .ref (a9 0), .ref (a14 0), .ref q16, .null]))] : va_W)] : List va_W).flatten := hD
  refine lv_aload_n hx hb dX4_init_48 rfl (lv_at hl 0 rfl) ?_
  refine lv_iconst (v := 2) hx hb dX4_init_49 (by decide) ?_
  refine wl_newaq hx hb hown lkk7 hX.2.2.2.2.2.1 hK hP hD hS hA 2 (Nat.le_of_ble_eq_true rfl) (Nat.le_of_ble_eq_true rfl) (Nat.le_of_ble_eq_true rfl) dX4_init_50 (fun q21 H hP hD hS => ?_)
  refine W.widen (k := 17) (n := 390) (Nat.le_refl _) (Nat.le_refl _) ?_
  have hP : va_P D vwCl ([([(q16, .inr (0, [.ref a19, .int 0]))] : va_W), ([(a19, .inl (cy 3, 6, (.inr (.inr (.inr (.inr (fun _ => none)))))))] : va_W), txW cy a14 q_z0, joW cy a9 q_z0, stW cy a4 q_s0, ([(x, .inr (4, [.ref (a4 0), .ref (a9 0), .ref (a14 0), .ref q16, .null]))] : va_W), ([(q21, .inl (cy 3, 2, (.inr (.inr (.inr (.inr (fun _ => none)))))))] : va_W)] : List va_W).flatten H := hP
  have hD : va_D A ([([(q16, .inr (0, [.ref a19, .int 0]))] : va_W), ([(a19, .inl (cy 3, 6, (.inr (.inr (.inr (.inr (fun _ => none)))))))] : va_W), txW cy a14 q_z0, joW cy a9 q_z0, stW cy a4 q_s0, ([(x, .inr (4, [.ref (a4 0), .ref (a9 0), .ref (a14 0), .ref q16, .null]))] : va_W), ([(q21, .inl (cy 3, 2, (.inr (.inr (.inr (.inr (fun _ => none)))))))] : va_W)] : List va_W).flatten := hD
  refine wl_putF (C := RX4) (T := TX4) (N := 5) (ci := 4) (v := .ref q21) hx hb hts in_X4 tyX4 tyX4_ok nmX4 hown hK hP hD hS 5 0 rfl rfl rfl 4 (by decide) lkf37 rfl rfl hnm rfl rfl rfl (Nat.le_of_ble_eq_true rfl) dX4_init_53 (fun H locs hP hD hS => ?_)
  have hP : va_P D vwCl ([([(q16, .inr (0, [.ref a19, .int 0]))] : va_W), ([(a19, .inl (cy 3, 6, (.inr (.inr (.inr (.inr (fun _ => none)))))))] : va_W), txW cy a14 q_z0, joW cy a9 q_z0, stW cy a4 q_s0, ([(x, .inr (4, [.ref (a4 0), .ref (a9 0), .ref (a14 0), .ref q16, .ref q21]))] : va_W), ([(q21, .inl (cy 3, 2, (.inr (.inr (.inr (.inr (fun _ => none)))))))] : va_W)] : List va_W).flatten H := hP
  have hD : va_D A ([([(q16, .inr (0, [.ref a19, .int 0]))] : va_W), ([(a19, .inl (cy 3, 6, (.inr (.inr (.inr (.inr (fun _ => none)))))))] : va_W), txW cy a14 q_z0, joW cy a9 q_z0, stW cy a4 q_s0, ([(x, .inr (4, [.ref (a4 0), .ref (a9 0), .ref (a14 0), .ref q16, .ref q21]))] : va_W), ([(q21, .inl (cy 3, 2, (.inr (.inr (.inr (.inr (fun _ => none)))))))] : va_W)] : List va_W).flatten := hD
  have hP := wl_Po (bs' := [([(x, .inr (4, [.ref (a4 0), .ref (a9 0), .ref (a14 0), .ref q16, .ref q21]))] : va_W), stW cy a4 q_s0, joW cy a9 q_z0, txW cy a14 q_z0, ([(q16, .inr (0, [.ref a19, .int 0]))] : va_W), ([(a19, .inl (cy 3, 6, (.inr (.inr (.inr (.inr (fun _ => none)))))))] : va_W), ([(q21, .inl (cy 3, 2, (.inr (.inr (.inr (.inr (fun _ => none)))))))] : va_W)]) [5, 4, 3, 2, 0, 1, 6] 7 rfl (by decide) rfl hP
  have hD := wl_Do (bs' := [([(x, .inr (4, [.ref (a4 0), .ref (a9 0), .ref (a14 0), .ref q16, .ref q21]))] : va_W), stW cy a4 q_s0, joW cy a9 q_z0, txW cy a14 q_z0, ([(q16, .inr (0, [.ref a19, .int 0]))] : va_W), ([(a19, .inl (cy 3, 6, (.inr (.inr (.inr (.inr (fun _ => none)))))))] : va_W), ([(q21, .inl (cy 3, 2, (.inr (.inr (.inr (.inr (fun _ => none)))))))] : va_W)]) [5, 4, 3, 2, 0, 1, 6] 7 rfl (by decide) rfl hD
  exact wl_Rv (bs := [([(x, .inr (4, [.ref (a4 0), .ref (a9 0), .ref (a14 0), .ref q16, .ref q21]))] : va_W), stW cy a4 q_s0, joW cy a9 q_z0, txW cy a14 q_z0, ([(q16, .inr (0, [.ref a19, .int 0]))] : va_W), ([(a19, .inl (cy 3, 6, (.inr (.inr (.inr (.inr (fun _ => none)))))))] : va_W), ([(q21, .inl (cy 3, 2, (.inr (.inr (.inr (.inr (fun _ => none)))))))] : va_W)]) hx hb hr hlocks hAe hP hD hS (by exact ⟨_, _, _, _, _, _, rfl⟩) dX4_init_56
