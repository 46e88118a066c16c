/-! the law's ask: what is caught -/
set_option maxHeartbeats 4000000 in
set_option maxRecDepth 100000 in
theorem b_a_lampOf1 (l : Launch) (hl0 : l.stackTraces = false) (D : va_G) (cy : Nat → ClassId) (x : Nat) (sa ja ta : Nat → Nat) (h q : Nat) (y y2 : Int32) (sz : Nat) (hx2 : ¬ (¬ y < 0 ∧ ¬ 8 ≤ y)) : Met l yL_ask wsL_ask ({ frames := 7, cells := 1, slots := 6, locals := 112 } : Room) (wl_ic D cy (wl_T9 (va_A ([([(x, .inr (4, [.ref (sa 0), .ref (ja 0), .ref (ta 0), .ref h, .ref q]))] : va_W)] : List va_W).flatten sz)) [([(x, .inr (4, [.ref (sa 0), .ref (ja 0), .ref (ta 0), .ref h, .ref q]))] : va_W)] sz [.ref x, .int (nI 0), .int y, .int y2]) (va_Qi (fun (r : Int32) (bs : List va_W) => r = (-10) ∧ bs = [([(x, .inr (4, [.ref (sa 0), .ref (ja 0), .ref (ta 0), .ref h, .ref q]))] : va_W)]) (wl_ib D [([(x, .inr (4, [.ref (sa 0), .ref (ja 0), .ref (ta 0), .ref h, .ref q]))] : va_W)] sz) (va_A ([([(x, .inr (4, [.ref (sa 0), .ref (ja 0), .ref (ta 0), .ref h, .ref q]))] : va_W)] : List va_W).flatten sz)) 1 6 (va_A ([([(x, .inr (4, [.ref (sa 0), .ref (ja 0), .ref (ta 0), .ref h, .ref q]))] : va_W)] : List va_W).flatten sz) := by
  refine wl_ofH (cc := cL_ask) (maxL := 5) (ret := (some .int)) (by decide) rfl (Nat.le_of_ble_eq_true rfl) ?_
  intro p e s m below meth c ls A hx hb hr hts hown hlocks hml htab hsz hAe hP hK hD hX hA hS hl
  rw [hAe] at hX
  have hl : lv_has ls 5 [(0, .ref x), (1, .int (nI 0)), (2, .int y), (3, .int y2)] := hl
  refine lv_iload_n hx hb dL_ask_0 rfl (lv_at hl 1 rfl) ?_
  refine wl_if_ne (tgt := 13) hx hb 0 dL_ask_1 (by decide) (by omega) (fun c1 => absurd c1 (by decide)) (fun c1 => ?_)
  refine lv_aload_n hx hb dL_ask_4 rfl (lv_at hl 0 rfl) ?_
  refine lv_iload_n hx hb dL_ask_5 rfl (lv_at hl 2 rfl) ?_
  refine lv_iload_n hx hb dL_ask_6 rfl (lv_at hl 3 rfl) ?_
  refine wl_xcall (As := [.int y, .int y2]) (rest := []) (bsC := [([(x, .inr (4, [.ref (sa 0), .ref (ja 0), .ref (ta 0), .ref h, .ref q]))] : va_W)]) (bsR := []) ⟨hx, hb, hml, hown, hts⟩ (b_X4_lampOf1 l hl0 D cy x sa ja ta h q y y2 s.heap.size hx2) (cwV 2 hts gL_ask_X4_lampOf rfl rfl rfl (by decide +kernel) ⟨Nat.le_of_ble_eq_true rfl, Nat.le_of_ble_eq_true rfl⟩) hX.1 hK hP hD hS hA rfl rfl rfl rfl rfl hl.1 rfl (Nat.le_of_ble_eq_true rfl) dL_ask_7 ⟨Nat.le_of_ble_eq_true rfl, Nat.le_of_ble_eq_true rfl⟩ (fun ce q9 H locs hP hD hS hce hcv hcl9 => ?_)
  refine vx_catch (name := "java/lang/IndexOutOfBoundsException") hown [] ⟨0, 98, 99, 44⟩ [⟨0, 98, 104, 46⟩] (by rw [htab]; rfl) (fun z hz => nomatch hz) (by decide) (by decide) (hts (.classLink RL 44 "java/lang/IndexOutOfBoundsException") (by decide +kernel)) (va_Nw.use rfl (hX.1.2.1 (.castable "java/lang/IndexOutOfBoundsException" "java/lang/IndexOutOfBoundsException") (by decide +kernel))) hce hcv hcl9 ?_
  refine W.widen (k := 1) (n := 6) (Nat.le_refl _) (Nat.le_refl _) ?_
  refine lv_astore (lv' := [(4, .ref q9), (0, .ref x), (1, .int (nI 0)), (2, .int y), (3, .int y2)]) hx hb dL_ask_99 hl (by decide) rfl (fun ls hl => ?_)
  refine lv_bipush (v := (-10)) hx hb dL_ask_101 (by decide) ?_
  exact wl_Ri (bs := [([(x, .inr (4, [.ref (sa 0), .ref (ja 0), .ref (ta 0), .ref h, .ref q]))] : va_W)]) (r := (-10)) hx hb hr hlocks hAe hP hD hS (by exact ⟨rfl, rfl⟩) dL_ask_103
set_option maxHeartbeats 4000000 in
set_option maxRecDepth 100000 in
theorem b_a_ifGap1 (l : Launch) (hl0 : l.stackTraces = false) (D : va_G) (cy : Nat → ClassId) (x : Nat) (sa ja ta : Nat → Nat) (h q : Nat) (y y2 : Int32) (sz : Nat) (hx2 : ¬ (¬ y < 0 ∧ ¬ 8 ≤ y)) : Met l yL_ask wsL_ask ({ frames := 7, cells := 1, slots := 6, locals := 112 } : Room) (wl_ic D cy (wl_T9 (va_A ([([(x, .inr (4, [.ref (sa 0), .ref (ja 0), .ref (ta 0), .ref h, .ref q]))] : va_W)] : List va_W).flatten sz)) [([(x, .inr (4, [.ref (sa 0), .ref (ja 0), .ref (ta 0), .ref h, .ref q]))] : va_W)] sz [.ref x, .int (nI 4), .int y, .int y2]) (va_Qi (fun (r : Int32) (bs : List va_W) => r = (-10) ∧ bs = [([(x, .inr (4, [.ref (sa 0), .ref (ja 0), .ref (ta 0), .ref h, .ref q]))] : va_W)]) (wl_ib D [([(x, .inr (4, [.ref (sa 0), .ref (ja 0), .ref (ta 0), .ref h, .ref q]))] : va_W)] sz) (va_A ([([(x, .inr (4, [.ref (sa 0), .ref (ja 0), .ref (ta 0), .ref h, .ref q]))] : va_W)] : List va_W).flatten sz)) 1 6 (va_A ([([(x, .inr (4, [.ref (sa 0), .ref (ja 0), .ref (ta 0), .ref h, .ref q]))] : va_W)] : List va_W).flatten sz) := by
  refine wl_ofH (cc := cL_ask) (maxL := 5) (ret := (some .int)) (by decide) rfl (Nat.le_of_ble_eq_true rfl) ?_
  intro p e s m below meth c ls A hx hb hr hts hown hlocks hml htab hsz hAe hP hK hD hX hA hS hl
  rw [hAe] at hX
  have hl : lv_has ls 5 [(0, .ref x), (1, .int (nI 4)), (2, .int y), (3, .int y2)] := hl
  refine lv_iload_n hx hb dL_ask_0 rfl (lv_at hl 1 rfl) ?_
  refine wl_if_ne (tgt := 13) hx hb 4 dL_ask_1 (by decide) (by omega) (fun c1 => ?_) (fun c1 => absurd c1 (by decide))
  refine lv_iload_n hx hb dL_ask_13 rfl (lv_at hl 1 rfl) ?_
  refine lv_iconst (v := 1) hx hb dL_ask_14 (by decide) ?_
  refine wl_icmp_ne (tgt := 26) hx hb 4 1 dL_ask_15 (by decide) (by omega) (by omega) (fun c2 => ?_) (fun c2 => absurd c2 (by decide))
  refine lv_iload_n hx hb dL_ask_26 rfl (lv_at hl 1 rfl) ?_
  refine lv_iconst (v := 2) hx hb dL_ask_27 (by decide) ?_
  refine wl_icmp_ne (tgt := 39) hx hb 4 2 dL_ask_28 (by decide) (by omega) (by omega) (fun c3 => ?_) (fun c3 => absurd c3 (by decide))
  refine lv_iload_n hx hb dL_ask_39 rfl (lv_at hl 1 rfl) ?_
  refine lv_iconst (v := 3) hx hb dL_ask_40 (by decide) ?_
  refine wl_icmp_ne (tgt := 52) hx hb 4 3 dL_ask_41 (by decide) (by omega) (by omega) (fun c4 => ?_) (fun c4 => absurd c4 (by decide))
  refine lv_iload_n hx hb dL_ask_52 rfl (lv_at hl 1 rfl) ?_
  refine lv_iconst (v := 4) hx hb dL_ask_53 (by decide) ?_
  refine wl_icmp_ne (tgt := 66) hx hb 4 4 dL_ask_54 (by decide) (by omega) (by omega) (fun c5 => absurd c5 (by decide)) (fun c5 => ?_)
  refine lv_aload_n hx hb dL_ask_57 rfl (lv_at hl 0 rfl) ?_
  refine lv_iload_n hx hb dL_ask_58 rfl (lv_at hl 2 rfl) ?_
  refine lv_iload_n hx hb dL_ask_59 rfl (lv_at hl 3 rfl) ?_
  refine wl_xcall (As := [.int y, .int y2]) (rest := []) (bsC := [([(x, .inr (4, [.ref (sa 0), .ref (ja 0), .ref (ta 0), .ref h, .ref q]))] : va_W)]) (bsR := []) ⟨hx, hb, hml, hown, hts⟩ (b_X4_ifGap1 l hl0 D cy x sa ja ta h q y y2 s.heap.size hx2) (cwV 2 hts gL_ask_X4_ifGap rfl rfl rfl (by decide +kernel) ⟨Nat.le_of_ble_eq_true rfl, Nat.le_of_ble_eq_true rfl⟩) hX.1 hK hP hD hS hA rfl rfl rfl rfl rfl hl.1 rfl (Nat.le_of_ble_eq_true rfl) dL_ask_60 ⟨Nat.le_of_ble_eq_true rfl, Nat.le_of_ble_eq_true rfl⟩ (fun ce q9 H locs hP hD hS hce hcv hcl9 => ?_)
  refine vx_catch (name := "java/lang/IndexOutOfBoundsException") hown [] ⟨0, 98, 99, 44⟩ [⟨0, 98, 104, 46⟩] (by rw [htab]; rfl) (fun z hz => nomatch hz) (by decide) (by decide) (hts (.classLink RL 44 "java/lang/IndexOutOfBoundsException") (by decide +kernel)) (va_Nw.use rfl (hX.1.2.1 (.castable "java/lang/IndexOutOfBoundsException" "java/lang/IndexOutOfBoundsException") (by decide +kernel))) hce hcv hcl9 ?_
  refine W.widen (k := 1) (n := 6) (Nat.le_refl _) (Nat.le_refl _) ?_
  refine lv_astore (lv' := [(4, .ref q9), (0, .ref x), (1, .int (nI 4)), (2, .int y), (3, .int y2)]) hx hb dL_ask_99 hl (by decide) rfl (fun ls hl => ?_)
  refine lv_bipush (v := (-10)) hx hb dL_ask_101 (by decide) ?_
  exact wl_Ri (bs := [([(x, .inr (4, [.ref (sa 0), .ref (ja 0), .ref (ta 0), .ref h, .ref q]))] : va_W)]) (r := (-10)) hx hb hr hlocks hAe hP hD hS (by exact ⟨rfl, rfl⟩) dL_ask_103
set_option maxHeartbeats 4000000 in
set_option maxRecDepth 100000 in
theorem b_a_bears1 (l : Launch) (hl0 : l.stackTraces = false) (D : va_G) (cy : Nat → ClassId) (x : Nat) (sa ja ta : Nat → Nat) (h q : Nat) (y : Int32) (yb0 : Int32) (sz : Nat) (hx2 : ¬ (¬ y < 0 ∧ ¬ 8 ≤ y)) : Met l yL_ask wsL_ask ({ frames := 7, cells := 1, slots := 6, locals := 112 } : Room) (wl_ic D cy (wl_T9 (va_A ([([(x, .inr (4, [.ref (sa 0), .ref (ja 0), .ref (ta 0), .ref h, .ref q]))] : va_W)] : List va_W).flatten sz)) [([(x, .inr (4, [.ref (sa 0), .ref (ja 0), .ref (ta 0), .ref h, .ref q]))] : va_W)] sz [.ref x, .int (nI 6), .int y, .int yb0]) (va_Qi (fun (r : Int32) (bs : List va_W) => r = (-10) ∧ bs = [([(x, .inr (4, [.ref (sa 0), .ref (ja 0), .ref (ta 0), .ref h, .ref q]))] : va_W)]) (wl_ib D [([(x, .inr (4, [.ref (sa 0), .ref (ja 0), .ref (ta 0), .ref h, .ref q]))] : va_W)] sz) (va_A ([([(x, .inr (4, [.ref (sa 0), .ref (ja 0), .ref (ta 0), .ref h, .ref q]))] : va_W)] : List va_W).flatten sz)) 1 6 (va_A ([([(x, .inr (4, [.ref (sa 0), .ref (ja 0), .ref (ta 0), .ref h, .ref q]))] : va_W)] : List va_W).flatten sz) := by
  refine wl_ofH (cc := cL_ask) (maxL := 5) (ret := (some .int)) (by decide) rfl (Nat.le_of_ble_eq_true rfl) ?_
  intro p e s m below meth c ls A hx hb hr hts hown hlocks hml htab hsz hAe hP hK hD hX hA hS hl
  rw [hAe] at hX
  have hl : lv_has ls 5 [(0, .ref x), (1, .int (nI 6)), (2, .int y), (3, .int yb0)] := hl
  refine lv_iload_n hx hb dL_ask_0 rfl (lv_at hl 1 rfl) ?_
  refine wl_if_ne (tgt := 13) hx hb 6 dL_ask_1 (by decide) (by omega) (fun c1 => ?_) (fun c1 => absurd c1 (by decide))
  refine lv_iload_n hx hb dL_ask_13 rfl (lv_at hl 1 rfl) ?_
  refine lv_iconst (v := 1) hx hb dL_ask_14 (by decide) ?_
  refine wl_icmp_ne (tgt := 26) hx hb 6 1 dL_ask_15 (by decide) (by omega) (by omega) (fun c2 => ?_) (fun c2 => absurd c2 (by decide))
  refine lv_iload_n hx hb dL_ask_26 rfl (lv_at hl 1 rfl) ?_
  refine lv_iconst (v := 2) hx hb dL_ask_27 (by decide) ?_
  refine wl_icmp_ne (tgt := 39) hx hb 6 2 dL_ask_28 (by decide) (by omega) (by omega) (fun c3 => ?_) (fun c3 => absurd c3 (by decide))
  refine lv_iload_n hx hb dL_ask_39 rfl (lv_at hl 1 rfl) ?_
  refine lv_iconst (v := 3) hx hb dL_ask_40 (by decide) ?_
  refine wl_icmp_ne (tgt := 52) hx hb 6 3 dL_ask_41 (by decide) (by omega) (by omega) (fun c4 => ?_) (fun c4 => absurd c4 (by decide))
  refine lv_iload_n hx hb dL_ask_52 rfl (lv_at hl 1 rfl) ?_
  refine lv_iconst (v := 4) hx hb dL_ask_53 (by decide) ?_
  refine wl_icmp_ne (tgt := 66) hx hb 6 4 dL_ask_54 (by decide) (by omega) (by omega) (fun c5 => ?_) (fun c5 => absurd c5 (by decide))
  refine lv_iload_n hx hb dL_ask_66 rfl (lv_at hl 1 rfl) ?_
  refine lv_iconst (v := 5) hx hb dL_ask_67 (by decide) ?_
  refine wl_icmp_ne (tgt := 79) hx hb 6 5 dL_ask_68 (by decide) (by omega) (by omega) (fun c6 => ?_) (fun c6 => absurd c6 (by decide))
  refine lv_iload_n hx hb dL_ask_79 rfl (lv_at hl 1 rfl) ?_
  refine lv_bipush (v := 6) hx hb dL_ask_80 (by decide) ?_
  refine wl_icmp_ne (tgt := 93) hx hb 6 6 dL_ask_82 (by decide) (by omega) (by omega) (fun c7 => absurd c7 (by decide)) (fun c7 => ?_)
  refine lv_aload_n hx hb dL_ask_85 rfl (lv_at hl 0 rfl) ?_
  refine lv_iload_n hx hb dL_ask_86 rfl (lv_at hl 2 rfl) ?_
  refine wl_xcall (As := [.int y]) (rest := []) (bsC := [([(x, .inr (4, [.ref (sa 0), .ref (ja 0), .ref (ta 0), .ref h, .ref q]))] : va_W)]) (bsR := []) ⟨hx, hb, hml, hown, hts⟩ (b_X4_bears1 l hl0 D cy x sa ja ta h q y s.heap.size hx2) (cwV 1 hts gL_ask_X4_bears rfl rfl rfl (by decide +kernel) ⟨Nat.le_of_ble_eq_true rfl, Nat.le_of_ble_eq_true rfl⟩) hX.1 hK hP hD hS hA rfl rfl rfl rfl rfl hl.1 rfl (Nat.le_of_ble_eq_true rfl) dL_ask_87 ⟨Nat.le_of_ble_eq_true rfl, Nat.le_of_ble_eq_true rfl⟩ (fun ce q9 H locs hP hD hS hce hcv hcl9 => ?_)
  refine vx_catch (name := "java/lang/IndexOutOfBoundsException") hown [] ⟨0, 98, 99, 44⟩ [⟨0, 98, 104, 46⟩] (by rw [htab]; rfl) (fun z hz => nomatch hz) (by decide) (by decide) (hts (.classLink RL 44 "java/lang/IndexOutOfBoundsException") (by decide +kernel)) (va_Nw.use rfl (hX.1.2.1 (.castable "java/lang/IndexOutOfBoundsException" "java/lang/IndexOutOfBoundsException") (by decide +kernel))) hce hcv hcl9 ?_
  refine W.widen (k := 1) (n := 6) (Nat.le_refl _) (Nat.le_refl _) ?_
  refine lv_astore (lv' := [(4, .ref q9), (0, .ref x), (1, .int (nI 6)), (2, .int y), (3, .int yb0)]) hx hb dL_ask_99 hl (by decide) rfl (fun ls hl => ?_)
  refine lv_bipush (v := (-10)) hx hb dL_ask_101 (by decide) ?_
  exact wl_Ri (bs := [([(x, .inr (4, [.ref (sa 0), .ref (ja 0), .ref (ta 0), .ref h, .ref q]))] : va_W)]) (r := (-10)) hx hb hr hlocks hAe hP hD hS (by exact ⟨rfl, rfl⟩) dL_ask_103
set_option maxHeartbeats 4000000 in
set_option maxRecDepth 100000 in
theorem b_a_wordsTo1 (l : Launch) (hl0 : l.stackTraces = false) (D : va_G) (cy : Nat → ClassId) (x : Nat) (sa ja ta : Nat → Nat) (h q : Nat) (y : Int32) (yb0 : Int32) (sz : Nat) (hx2 : ¬ (¬ y < 0 ∧ ¬ 8 ≤ y)) : Met l yL_ask wsL_ask ({ frames := 7, cells := 1, slots := 6, locals := 111 } : Room) (wl_ic D cy (wl_T9 (va_A ([([(x, .inr (4, [.ref (sa 0), .ref (ja 0), .ref (ta 0), .ref h, .ref q]))] : va_W)] : List va_W).flatten sz)) [([(x, .inr (4, [.ref (sa 0), .ref (ja 0), .ref (ta 0), .ref h, .ref q]))] : va_W)] sz [.ref x, .int (nI 7), .int y, .int yb0]) (va_Qi (fun (r : Int32) (bs : List va_W) => r = (-10) ∧ bs = [([(x, .inr (4, [.ref (sa 0), .ref (ja 0), .ref (ta 0), .ref h, .ref q]))] : va_W)]) (wl_ib D [([(x, .inr (4, [.ref (sa 0), .ref (ja 0), .ref (ta 0), .ref h, .ref q]))] : va_W)] sz) (va_A ([([(x, .inr (4, [.ref (sa 0), .ref (ja 0), .ref (ta 0), .ref h, .ref q]))] : va_W)] : List va_W).flatten sz)) 1 6 (va_A ([([(x, .inr (4, [.ref (sa 0), .ref (ja 0), .ref (ta 0), .ref h, .ref q]))] : va_W)] : List va_W).flatten sz) := by
  refine wl_ofH (cc := cL_ask) (maxL := 5) (ret := (some .int)) (by decide) rfl (Nat.le_of_ble_eq_true rfl) ?_
  intro p e s m below meth c ls A hx hb hr hts hown hlocks hml htab hsz hAe hP hK hD hX hA hS hl
  rw [hAe] at hX
  have hl : lv_has ls 5 [(0, .ref x), (1, .int (nI 7)), (2, .int y), (3, .int yb0)] := hl
  refine lv_iload_n hx hb dL_ask_0 rfl (lv_at hl 1 rfl) ?_
  refine wl_if_ne (tgt := 13) hx hb 7 dL_ask_1 (by decide) (by omega) (fun c1 => ?_) (fun c1 => absurd c1 (by decide))
  refine lv_iload_n hx hb dL_ask_13 rfl (lv_at hl 1 rfl) ?_
  refine lv_iconst (v := 1) hx hb dL_ask_14 (by decide) ?_
  refine wl_icmp_ne (tgt := 26) hx hb 7 1 dL_ask_15 (by decide) (by omega) (by omega) (fun c2 => ?_) (fun c2 => absurd c2 (by decide))
  refine lv_iload_n hx hb dL_ask_26 rfl (lv_at hl 1 rfl) ?_
  refine lv_iconst (v := 2) hx hb dL_ask_27 (by decide) ?_
  refine wl_icmp_ne (tgt := 39) hx hb 7 2 dL_ask_28 (by decide) (by omega) (by omega) (fun c3 => ?_) (fun c3 => absurd c3 (by decide))
  refine lv_iload_n hx hb dL_ask_39 rfl (lv_at hl 1 rfl) ?_
  refine lv_iconst (v := 3) hx hb dL_ask_40 (by decide) ?_
  refine wl_icmp_ne (tgt := 52) hx hb 7 3 dL_ask_41 (by decide) (by omega) (by omega) (fun c4 => ?_) (fun c4 => absurd c4 (by decide))
  refine lv_iload_n hx hb dL_ask_52 rfl (lv_at hl 1 rfl) ?_
  refine lv_iconst (v := 4) hx hb dL_ask_53 (by decide) ?_
  refine wl_icmp_ne (tgt := 66) hx hb 7 4 dL_ask_54 (by decide) (by omega) (by omega) (fun c5 => ?_) (fun c5 => absurd c5 (by decide))
  refine lv_iload_n hx hb dL_ask_66 rfl (lv_at hl 1 rfl) ?_
  refine lv_iconst (v := 5) hx hb dL_ask_67 (by decide) ?_
  refine wl_icmp_ne (tgt := 79) hx hb 7 5 dL_ask_68 (by decide) (by omega) (by omega) (fun c6 => ?_) (fun c6 => absurd c6 (by decide))
  refine lv_iload_n hx hb dL_ask_79 rfl (lv_at hl 1 rfl) ?_
  refine lv_bipush (v := 6) hx hb dL_ask_80 (by decide) ?_
  refine wl_icmp_ne (tgt := 93) hx hb 7 6 dL_ask_82 (by decide) (by omega) (by omega) (fun c7 => ?_) (fun c7 => absurd c7 (by decide))
  refine lv_aload_n hx hb dL_ask_93 rfl (lv_at hl 0 rfl) ?_
  refine lv_iload_n hx hb dL_ask_94 rfl (lv_at hl 2 rfl) ?_
  refine wl_xcall (As := [.int y]) (rest := []) (bsC := [([(x, .inr (4, [.ref (sa 0), .ref (ja 0), .ref (ta 0), .ref h, .ref q]))] : va_W)]) (bsR := []) ⟨hx, hb, hml, hown, hts⟩ (b_X4_wordsTo1 l hl0 D cy x sa ja ta h q y s.heap.size hx2) (cwV 1 hts gL_ask_X4_wordsTo rfl rfl rfl (by decide +kernel) ⟨Nat.le_of_ble_eq_true rfl, Nat.le_of_ble_eq_true rfl⟩) hX.1 hK hP hD hS hA rfl rfl rfl rfl rfl hl.1 rfl (Nat.le_of_ble_eq_true rfl) dL_ask_95 ⟨Nat.le_of_ble_eq_true rfl, Nat.le_of_ble_eq_true rfl⟩ (fun ce q9 H locs hP hD hS hce hcv hcl9 => ?_)
  refine vx_catch (name := "java/lang/IndexOutOfBoundsException") hown [] ⟨0, 98, 99, 44⟩ [⟨0, 98, 104, 46⟩] (by rw [htab]; rfl) (fun z hz => nomatch hz) (by decide) (by decide) (hts (.classLink RL 44 "java/lang/IndexOutOfBoundsException") (by decide +kernel)) (va_Nw.use rfl (hX.1.2.1 (.castable "java/lang/IndexOutOfBoundsException" "java/lang/IndexOutOfBoundsException") (by decide +kernel))) hce hcv hcl9 ?_
  refine W.widen (k := 1) (n := 6) (Nat.le_refl _) (Nat.le_refl _) ?_
  refine lv_astore (lv' := [(4, .ref q9), (0, .ref x), (1, .int (nI 7)), (2, .int y), (3, .int yb0)]) hx hb dL_ask_99 hl (by decide) rfl (fun ls hl => ?_)
  refine lv_bipush (v := (-10)) hx hb dL_ask_101 (by decide) ?_
  exact wl_Ri (bs := [([(x, .inr (4, [.ref (sa 0), .ref (ja 0), .ref (ta 0), .ref h, .ref q]))] : va_W)]) (r := (-10)) hx hb hr hlocks hAe hP hD hS (by exact ⟨rfl, rfl⟩) dL_ask_103
set_option maxHeartbeats 4000000 in
set_option maxRecDepth 100000 in
theorem b_a_setting1 (l : Launch) (hl0 : l.stackTraces = false) (D : va_G) (cy : Nat → ClassId) (x : Nat) (sa ja ta : Nat → Nat) (h q : Nat) (y : Int32) (yb0 : Int32) (sz : Nat) (hx2 : ¬ (¬ y < 0 ∧ ¬ 3 ≤ y)) : Met l yL_ask wsL_ask ({ frames := 7, cells := 1, slots := 6, locals := 111 } : Room) (wl_ic D cy (wl_T9 (va_A ([([(x, .inr (4, [.ref (sa 0), .ref (ja 0), .ref (ta 0), .ref h, .ref q]))] : va_W)] : List va_W).flatten sz)) [([(x, .inr (4, [.ref (sa 0), .ref (ja 0), .ref (ta 0), .ref h, .ref q]))] : va_W)] sz [.ref x, .int (nI 3), .int y, .int yb0]) (va_Qi (fun (r : Int32) (bs : List va_W) => r = (-10) ∧ bs = [([(x, .inr (4, [.ref (sa 0), .ref (ja 0), .ref (ta 0), .ref h, .ref q]))] : va_W)]) (wl_ib D [([(x, .inr (4, [.ref (sa 0), .ref (ja 0), .ref (ta 0), .ref h, .ref q]))] : va_W)] sz) (va_A ([([(x, .inr (4, [.ref (sa 0), .ref (ja 0), .ref (ta 0), .ref h, .ref q]))] : va_W)] : List va_W).flatten sz)) 1 6 (va_A ([([(x, .inr (4, [.ref (sa 0), .ref (ja 0), .ref (ta 0), .ref h, .ref q]))] : va_W)] : List va_W).flatten sz) := by
  refine wl_ofH (cc := cL_ask) (maxL := 5) (ret := (some .int)) (by decide) rfl (Nat.le_of_ble_eq_true rfl) ?_
  intro p e s m below meth c ls A hx hb hr hts hown hlocks hml htab hsz hAe hP hK hD hX hA hS hl
  rw [hAe] at hX
  have hl : lv_has ls 5 [(0, .ref x), (1, .int (nI 3)), (2, .int y), (3, .int yb0)] := hl
  refine lv_iload_n hx hb dL_ask_0 rfl (lv_at hl 1 rfl) ?_
  refine wl_if_ne (tgt := 13) hx hb 3 dL_ask_1 (by decide) (by omega) (fun c1 => ?_) (fun c1 => absurd c1 (by decide))
  refine lv_iload_n hx hb dL_ask_13 rfl (lv_at hl 1 rfl) ?_
  refine lv_iconst (v := 1) hx hb dL_ask_14 (by decide) ?_
  refine wl_icmp_ne (tgt := 26) hx hb 3 1 dL_ask_15 (by decide) (by omega) (by omega) (fun c2 => ?_) (fun c2 => absurd c2 (by decide))
  refine lv_iload_n hx hb dL_ask_26 rfl (lv_at hl 1 rfl) ?_
  refine lv_iconst (v := 2) hx hb dL_ask_27 (by decide) ?_
  refine wl_icmp_ne (tgt := 39) hx hb 3 2 dL_ask_28 (by decide) (by omega) (by omega) (fun c3 => ?_) (fun c3 => absurd c3 (by decide))
  refine lv_iload_n hx hb dL_ask_39 rfl (lv_at hl 1 rfl) ?_
  refine lv_iconst (v := 3) hx hb dL_ask_40 (by decide) ?_
  refine wl_icmp_ne (tgt := 52) hx hb 3 3 dL_ask_41 (by decide) (by omega) (by omega) (fun c4 => absurd c4 (by decide)) (fun c4 => ?_)
  refine lv_aload_n hx hb dL_ask_44 rfl (lv_at hl 0 rfl) ?_
  refine lv_iload_n hx hb dL_ask_45 rfl (lv_at hl 2 rfl) ?_
  refine wl_xcall (As := [.int y]) (rest := []) (bsC := [([(x, .inr (4, [.ref (sa 0), .ref (ja 0), .ref (ta 0), .ref h, .ref q]))] : va_W)]) (bsR := []) ⟨hx, hb, hml, hown, hts⟩ (b_X4_setting1 l hl0 D cy x sa ja ta h q y s.heap.size hx2) (cwV 1 hts gL_ask_X4_setting rfl rfl rfl (by decide +kernel) ⟨Nat.le_of_ble_eq_true rfl, Nat.le_of_ble_eq_true rfl⟩) hX.1 hK hP hD hS hA rfl rfl rfl rfl rfl hl.1 rfl (Nat.le_of_ble_eq_true rfl) dL_ask_46 ⟨Nat.le_of_ble_eq_true rfl, Nat.le_of_ble_eq_true rfl⟩ (fun ce q9 H locs hP hD hS hce hcv hcl9 => ?_)
  refine vx_catch (name := "java/lang/IndexOutOfBoundsException") hown [] ⟨0, 98, 99, 44⟩ [⟨0, 98, 104, 46⟩] (by rw [htab]; rfl) (fun z hz => nomatch hz) (by decide) (by decide) (hts (.classLink RL 44 "java/lang/IndexOutOfBoundsException") (by decide +kernel)) (va_Nw.use rfl (hX.1.2.1 (.castable "java/lang/IndexOutOfBoundsException" "java/lang/IndexOutOfBoundsException") (by decide +kernel))) hce hcv hcl9 ?_
  refine W.widen (k := 1) (n := 6) (Nat.le_refl _) (Nat.le_refl _) ?_
  refine lv_astore (lv' := [(4, .ref q9), (0, .ref x), (1, .int (nI 3)), (2, .int y), (3, .int yb0)]) hx hb dL_ask_99 hl (by decide) rfl (fun ls hl => ?_)
  refine lv_bipush (v := (-10)) hx hb dL_ask_101 (by decide) ?_
  exact wl_Ri (bs := [([(x, .inr (4, [.ref (sa 0), .ref (ja 0), .ref (ta 0), .ref h, .ref q]))] : va_W)]) (r := (-10)) hx hb hr hlocks hAe hP hD hS (by exact ⟨rfl, rfl⟩) dL_ask_103
set_option maxHeartbeats 4000000 in
set_option maxRecDepth 100000 in
theorem b_a_wrong1 (l : Launch) (hl0 : l.stackTraces = false) (D : va_G) (cy : Nat → ClassId) (x : Nat) (sa ja ta : Nat → Nat) (h q : Nat) (y : Int32) (yb0 : Int32) (sz : Nat) (hx2 : ¬ (¬ y < 0 ∧ ¬ 4095 < y)) : Met l yL_ask wsL_ask ({ frames := 7, cells := 1, slots := 6, locals := 111 } : Room) (wl_ic D cy (wl_T9 (va_A ([([(x, .inr (4, [.ref (sa 0), .ref (ja 0), .ref (ta 0), .ref h, .ref q]))] : va_W)] : List va_W).flatten sz)) [([(x, .inr (4, [.ref (sa 0), .ref (ja 0), .ref (ta 0), .ref h, .ref q]))] : va_W)] sz [.ref x, .int (nI 5), .int y, .int yb0]) (va_Qi (fun (r : Int32) (bs : List va_W) => r = (-11) ∧ bs = [([(x, .inr (4, [.ref (sa 0), .ref (ja 0), .ref (ta 0), .ref h, .ref q]))] : va_W)]) (wl_ib D [([(x, .inr (4, [.ref (sa 0), .ref (ja 0), .ref (ta 0), .ref h, .ref q]))] : va_W)] sz) (va_A ([([(x, .inr (4, [.ref (sa 0), .ref (ja 0), .ref (ta 0), .ref h, .ref q]))] : va_W)] : List va_W).flatten sz)) 1 6 (va_A ([([(x, .inr (4, [.ref (sa 0), .ref (ja 0), .ref (ta 0), .ref h, .ref q]))] : va_W)] : List va_W).flatten sz) := by
  refine wl_ofH (cc := cL_ask) (maxL := 5) (ret := (some .int)) (by decide) rfl (Nat.le_of_ble_eq_true rfl) ?_
  intro p e s m below meth c ls A hx hb hr hts hown hlocks hml htab hsz hAe hP hK hD hX hA hS hl
  rw [hAe] at hX
  have hl : lv_has ls 5 [(0, .ref x), (1, .int (nI 5)), (2, .int y), (3, .int yb0)] := hl
  refine lv_iload_n hx hb dL_ask_0 rfl (lv_at hl 1 rfl) ?_
  refine wl_if_ne (tgt := 13) hx hb 5 dL_ask_1 (by decide) (by omega) (fun c1 => ?_) (fun c1 => absurd c1 (by decide))
  refine lv_iload_n hx hb dL_ask_13 rfl (lv_at hl 1 rfl) ?_
  refine lv_iconst (v := 1) hx hb dL_ask_14 (by decide) ?_
  refine wl_icmp_ne (tgt := 26) hx hb 5 1 dL_ask_15 (by decide) (by omega) (by omega) (fun c2 => ?_) (fun c2 => absurd c2 (by decide))
  refine lv_iload_n hx hb dL_ask_26 rfl (lv_at hl 1 rfl) ?_
  refine lv_iconst (v := 2) hx hb dL_ask_27 (by decide) ?_
  refine wl_icmp_ne (tgt := 39) hx hb 5 2 dL_ask_28 (by decide) (by omega) (by omega) (fun c3 => ?_) (fun c3 => absurd c3 (by decide))
  refine lv_iload_n hx hb dL_ask_39 rfl (lv_at hl 1 rfl) ?_
  refine lv_iconst (v := 3) hx hb dL_ask_40 (by decide) ?_
  refine wl_icmp_ne (tgt := 52) hx hb 5 3 dL_ask_41 (by decide) (by omega) (by omega) (fun c4 => ?_) (fun c4 => absurd c4 (by decide))
  refine lv_iload_n hx hb dL_ask_52 rfl (lv_at hl 1 rfl) ?_
  refine lv_iconst (v := 4) hx hb dL_ask_53 (by decide) ?_
  refine wl_icmp_ne (tgt := 66) hx hb 5 4 dL_ask_54 (by decide) (by omega) (by omega) (fun c5 => ?_) (fun c5 => absurd c5 (by decide))
  refine lv_iload_n hx hb dL_ask_66 rfl (lv_at hl 1 rfl) ?_
  refine lv_iconst (v := 5) hx hb dL_ask_67 (by decide) ?_
  refine wl_icmp_ne (tgt := 79) hx hb 5 5 dL_ask_68 (by decide) (by omega) (by omega) (fun c6 => absurd c6 (by decide)) (fun c6 => ?_)
  refine lv_aload_n hx hb dL_ask_71 rfl (lv_at hl 0 rfl) ?_
  refine lv_iload_n hx hb dL_ask_72 rfl (lv_at hl 2 rfl) ?_
  refine wl_xcall (As := [.int y]) (rest := []) (bsC := [([(x, .inr (4, [.ref (sa 0), .ref (ja 0), .ref (ta 0), .ref h, .ref q]))] : va_W)]) (bsR := []) ⟨hx, hb, hml, hown, hts⟩ (b_X4_wrong1 l hl0 D cy x sa ja ta h q y s.heap.size hx2) (cwV 1 hts gL_ask_X4_wrong rfl rfl rfl (by decide +kernel) ⟨Nat.le_of_ble_eq_true rfl, Nat.le_of_ble_eq_true rfl⟩) hX.1 hK hP hD hS hA rfl rfl rfl rfl rfl hl.1 rfl (Nat.le_of_ble_eq_true rfl) dL_ask_73 ⟨Nat.le_of_ble_eq_true rfl, Nat.le_of_ble_eq_true rfl⟩ (fun ce q9 H locs hP hD hS hce hcv hcl9 => ?_)
  refine vx_catch (name := "java/lang/IllegalArgumentException") hown [⟨0, 98, 99, 44⟩] ⟨0, 98, 104, 46⟩ [] (by rw [htab]; rfl) (fun z hz => by rw [List.mem_singleton.mp hz]; exact Or.inr ⟨by decide, _, hts (.classLink RL 44 "java/lang/IndexOutOfBoundsException") (by decide +kernel), hX.2.1⟩) (by decide) (by decide) (hts (.classLink RL 46 "java/lang/IllegalArgumentException") (by decide +kernel)) (va_Nw.use rfl (hX.1.2.1 (.castable "java/lang/IllegalArgumentException" "java/lang/IllegalArgumentException") (by decide +kernel))) hce hcv hcl9 ?_
  refine W.widen (k := 1) (n := 6) (Nat.le_refl _) (Nat.le_refl _) ?_
  refine lv_astore (lv' := [(4, .ref q9), (0, .ref x), (1, .int (nI 5)), (2, .int y), (3, .int yb0)]) hx hb dL_ask_104 hl (by decide) rfl (fun ls hl => ?_)
  refine lv_bipush (v := (-11)) hx hb dL_ask_106 (by decide) ?_
  exact wl_Ri (bs := [([(x, .inr (4, [.ref (sa 0), .ref (ja 0), .ref (ta 0), .ref h, .ref q]))] : va_W)]) (r := (-11)) hx hb hr hlocks hAe hP hD hS (by exact ⟨rfl, rfl⟩) dL_ask_108
set_option maxHeartbeats 4000000 in
set_option maxRecDepth 100000 in
theorem b_a_ifGap2 (l : Launch) (hl0 : l.stackTraces = false) (D : va_G) (cy : Nat → ClassId) (x : Nat) (sa ja ta : Nat → Nat) (h q : Nat) (i : Nat) (y : Int32) (sz : Nat) (hi : i < 8) (hx2 : ¬ (¬ y < 0 ∧ ¬ 1 < y)) : Met l yL_ask wsL_ask ({ frames := 7, cells := 1, slots := 6, locals := 112 } : Room) (wl_ic D cy (wl_T9 (va_A ([([(x, .inr (4, [.ref (sa 0), .ref (ja 0), .ref (ta 0), .ref h, .ref q]))] : va_W)] : List va_W).flatten sz)) [([(x, .inr (4, [.ref (sa 0), .ref (ja 0), .ref (ta 0), .ref h, .ref q]))] : va_W)] sz [.ref x, .int (nI 4), .int (nI i), .int y]) (va_Qi (fun (r : Int32) (bs : List va_W) => r = (-11) ∧ bs = [([(x, .inr (4, [.ref (sa 0), .ref (ja 0), .ref (ta 0), .ref h, .ref q]))] : va_W)]) (wl_ib D [([(x, .inr (4, [.ref (sa 0), .ref (ja 0), .ref (ta 0), .ref h, .ref q]))] : va_W)] sz) (va_A ([([(x, .inr (4, [.ref (sa 0), .ref (ja 0), .ref (ta 0), .ref h, .ref q]))] : va_W)] : List va_W).flatten sz)) 1 6 (va_A ([([(x, .inr (4, [.ref (sa 0), .ref (ja 0), .ref (ta 0), .ref h, .ref q]))] : va_W)] : List va_W).flatten sz) := by
  refine wl_ofH (cc := cL_ask) (maxL := 5) (ret := (some .int)) (by decide) rfl (Nat.le_of_ble_eq_true rfl) ?_
  intro p e s m below meth c ls A hx hb hr hts hown hlocks hml htab hsz hAe hP hK hD hX hA hS hl
  rw [hAe] at hX
  have hl : lv_has ls 5 [(0, .ref x), (1, .int (nI 4)), (2, .int (nI i)), (3, .int y)] := hl
  refine lv_iload_n hx hb dL_ask_0 rfl (lv_at hl 1 rfl) ?_
  refine wl_if_ne (tgt := 13) hx hb 4 dL_ask_1 (by decide) (by omega) (fun c1 => ?_) (fun c1 => absurd c1 (by decide))
  refine lv_iload_n hx hb dL_ask_13 rfl (lv_at hl 1 rfl) ?_
  refine lv_iconst (v := 1) hx hb dL_ask_14 (by decide) ?_
  refine wl_icmp_ne (tgt := 26) hx hb 4 1 dL_ask_15 (by decide) (by omega) (by omega) (fun c2 => ?_) (fun c2 => absurd c2 (by decide))
  refine lv_iload_n hx hb dL_ask_26 rfl (lv_at hl 1 rfl) ?_
  refine lv_iconst (v := 2) hx hb dL_ask_27 (by decide) ?_
  refine wl_icmp_ne (tgt := 39) hx hb 4 2 dL_ask_28 (by decide) (by omega) (by omega) (fun c3 => ?_) (fun c3 => absurd c3 (by decide))
  refine lv_iload_n hx hb dL_ask_39 rfl (lv_at hl 1 rfl) ?_
  refine lv_iconst (v := 3) hx hb dL_ask_40 (by decide) ?_
  refine wl_icmp_ne (tgt := 52) hx hb 4 3 dL_ask_41 (by decide) (by omega) (by omega) (fun c4 => ?_) (fun c4 => absurd c4 (by decide))
  refine lv_iload_n hx hb dL_ask_52 rfl (lv_at hl 1 rfl) ?_
  refine lv_iconst (v := 4) hx hb dL_ask_53 (by decide) ?_
  refine wl_icmp_ne (tgt := 66) hx hb 4 4 dL_ask_54 (by decide) (by omega) (by omega) (fun c5 => absurd c5 (by decide)) (fun c5 => ?_)
  refine lv_aload_n hx hb dL_ask_57 rfl (lv_at hl 0 rfl) ?_
  refine lv_iload_n hx hb dL_ask_58 rfl (lv_at hl 2 rfl) ?_
  refine lv_iload_n hx hb dL_ask_59 rfl (lv_at hl 3 rfl) ?_
  refine wl_xcall (As := [.int (nI i), .int y]) (rest := []) (bsC := [([(x, .inr (4, [.ref (sa 0), .ref (ja 0), .ref (ta 0), .ref h, .ref q]))] : va_W)]) (bsR := []) ⟨hx, hb, hml, hown, hts⟩ (b_X4_ifGap2 l hl0 D cy x sa ja ta h q i y s.heap.size hi hx2) (cwV 2 hts gL_ask_X4_ifGap rfl rfl rfl (by decide +kernel) ⟨Nat.le_of_ble_eq_true rfl, Nat.le_of_ble_eq_true rfl⟩) hX.1 hK hP hD hS hA rfl rfl rfl rfl rfl hl.1 rfl (Nat.le_of_ble_eq_true rfl) dL_ask_60 ⟨Nat.le_of_ble_eq_true rfl, Nat.le_of_ble_eq_true rfl⟩ (fun ce q9 H locs hP hD hS hce hcv hcl9 => ?_)
  refine vx_catch (name := "java/lang/IllegalArgumentException") hown [⟨0, 98, 99, 44⟩] ⟨0, 98, 104, 46⟩ [] (by rw [htab]; rfl) (fun z hz => by rw [List.mem_singleton.mp hz]; exact Or.inr ⟨by decide, _, hts (.classLink RL 44 "java/lang/IndexOutOfBoundsException") (by decide +kernel), hX.2.1⟩) (by decide) (by decide) (hts (.classLink RL 46 "java/lang/IllegalArgumentException") (by decide +kernel)) (va_Nw.use rfl (hX.1.2.1 (.castable "java/lang/IllegalArgumentException" "java/lang/IllegalArgumentException") (by decide +kernel))) hce hcv hcl9 ?_
  refine W.widen (k := 1) (n := 6) (Nat.le_refl _) (Nat.le_refl _) ?_
  refine lv_astore (lv' := [(4, .ref q9), (0, .ref x), (1, .int (nI 4)), (2, .int (nI i)), (3, .int y)]) hx hb dL_ask_104 hl (by decide) rfl (fun ls hl => ?_)
  refine lv_bipush (v := (-11)) hx hb dL_ask_106 (by decide) ?_
  exact wl_Ri (bs := [([(x, .inr (4, [.ref (sa 0), .ref (ja 0), .ref (ta 0), .ref h, .ref q]))] : va_W)]) (r := (-11)) hx hb hr hlocks hAe hP hD hS (by exact ⟨rfl, rfl⟩) dL_ask_108
set_option maxHeartbeats 4000000 in
set_option maxRecDepth 100000 in
theorem b_a_lampOf2 (l : Launch) (hl0 : l.stackTraces = false) (D : va_G) (cy : Nat → ClassId) (x : Nat) (sa ja ta : Nat → Nat) (h q : Nat) (i : Nat) (y : Int32) (sz : Nat) (hi : i < 8) (hx2 : ¬ (¬ y < 0 ∧ ¬ 7 < y)) : Met l yL_ask wsL_ask ({ frames := 7, cells := 1, slots := 6, locals := 112 } : Room) (wl_ic D cy (wl_T9 (va_A ([([(x, .inr (4, [.ref (sa 0), .ref (ja 0), .ref (ta 0), .ref h, .ref q]))] : va_W)] : List va_W).flatten sz)) [([(x, .inr (4, [.ref (sa 0), .ref (ja 0), .ref (ta 0), .ref h, .ref q]))] : va_W)] sz [.ref x, .int (nI 0), .int (nI i), .int y]) (va_Qi (fun (r : Int32) (bs : List va_W) => r = (-11) ∧ bs = [([(x, .inr (4, [.ref (sa 0), .ref (ja 0), .ref (ta 0), .ref h, .ref q]))] : va_W)]) (wl_ib D [([(x, .inr (4, [.ref (sa 0), .ref (ja 0), .ref (ta 0), .ref h, .ref q]))] : va_W)] sz) (va_A ([([(x, .inr (4, [.ref (sa 0), .ref (ja 0), .ref (ta 0), .ref h, .ref q]))] : va_W)] : List va_W).flatten sz)) 1 6 (va_A ([([(x, .inr (4, [.ref (sa 0), .ref (ja 0), .ref (ta 0), .ref h, .ref q]))] : va_W)] : List va_W).flatten sz) := by
  refine wl_ofH (cc := cL_ask) (maxL := 5) (ret := (some .int)) (by decide) rfl (Nat.le_of_ble_eq_true rfl) ?_
  intro p e s m below meth c ls A hx hb hr hts hown hlocks hml htab hsz hAe hP hK hD hX hA hS hl
  rw [hAe] at hX
  have hl : lv_has ls 5 [(0, .ref x), (1, .int (nI 0)), (2, .int (nI i)), (3, .int y)] := hl
  refine lv_iload_n hx hb dL_ask_0 rfl (lv_at hl 1 rfl) ?_
  refine wl_if_ne (tgt := 13) hx hb 0 dL_ask_1 (by decide) (by omega) (fun c1 => absurd c1 (by decide)) (fun c1 => ?_)
  refine lv_aload_n hx hb dL_ask_4 rfl (lv_at hl 0 rfl) ?_
  refine lv_iload_n hx hb dL_ask_5 rfl (lv_at hl 2 rfl) ?_
  refine lv_iload_n hx hb dL_ask_6 rfl (lv_at hl 3 rfl) ?_
  refine wl_xcall (As := [.int (nI i), .int y]) (rest := []) (bsC := [([(x, .inr (4, [.ref (sa 0), .ref (ja 0), .ref (ta 0), .ref h, .ref q]))] : va_W)]) (bsR := []) ⟨hx, hb, hml, hown, hts⟩ (b_X4_lampOf2 l hl0 D cy x sa ja ta h q i y s.heap.size hi hx2) (cwV 2 hts gL_ask_X4_lampOf rfl rfl rfl (by decide +kernel) ⟨Nat.le_of_ble_eq_true rfl, Nat.le_of_ble_eq_true rfl⟩) hX.1 hK hP hD hS hA rfl rfl rfl rfl rfl hl.1 rfl (Nat.le_of_ble_eq_true rfl) dL_ask_7 ⟨Nat.le_of_ble_eq_true rfl, Nat.le_of_ble_eq_true rfl⟩ (fun ce q9 H locs hP hD hS hce hcv hcl9 => ?_)
  refine vx_catch (name := "java/lang/IllegalArgumentException") hown [⟨0, 98, 99, 44⟩] ⟨0, 98, 104, 46⟩ [] (by rw [htab]; rfl) (fun z hz => by rw [List.mem_singleton.mp hz]; exact Or.inr ⟨by decide, _, hts (.classLink RL 44 "java/lang/IndexOutOfBoundsException") (by decide +kernel), hX.2.1⟩) (by decide) (by decide) (hts (.classLink RL 46 "java/lang/IllegalArgumentException") (by decide +kernel)) (va_Nw.use rfl (hX.1.2.1 (.castable "java/lang/IllegalArgumentException" "java/lang/IllegalArgumentException") (by decide +kernel))) hce hcv hcl9 ?_
  refine W.widen (k := 1) (n := 6) (Nat.le_refl _) (Nat.le_refl _) ?_
  refine lv_astore (lv' := [(4, .ref q9), (0, .ref x), (1, .int (nI 0)), (2, .int (nI i)), (3, .int y)]) hx hb dL_ask_104 hl (by decide) rfl (fun ls hl => ?_)
  refine lv_bipush (v := (-11)) hx hb dL_ask_106 (by decide) ?_
  exact wl_Ri (bs := [([(x, .inr (4, [.ref (sa 0), .ref (ja 0), .ref (ta 0), .ref h, .ref q]))] : va_W)]) (r := (-11)) hx hb hr hlocks hAe hP hD hS (by exact ⟨rfl, rfl⟩) dL_ask_108
set_option maxHeartbeats 4000000 in
set_option maxRecDepth 100000 in
theorem b_a_count1 (l : Launch) (hl0 : l.stackTraces = false) (D : va_G) (cy : Nat → ClassId) (x : Nat) (sa ja ta : Nat → Nat) (h q : Nat) (y : Int32) (yb0 : Int32) (sz : Nat) (hx2 : ¬ (¬ y < 0 ∧ ¬ 10 < y)) : Met l yL_ask wsL_ask ({ frames := 7, cells := 1, slots := 6, locals := 111 } : Room) (wl_ic D cy (wl_T9 (va_A ([([(x, .inr (4, [.ref (sa 0), .ref (ja 0), .ref (ta 0), .ref h, .ref q]))] : va_W)] : List va_W).flatten sz)) [([(x, .inr (4, [.ref (sa 0), .ref (ja 0), .ref (ta 0), .ref h, .ref q]))] : va_W)] sz [.ref x, .int (nI 2), .int y, .int yb0]) (va_Qi (fun (r : Int32) (bs : List va_W) => r = (-11) ∧ bs = [([(x, .inr (4, [.ref (sa 0), .ref (ja 0), .ref (ta 0), .ref h, .ref q]))] : va_W)]) (wl_ib D [([(x, .inr (4, [.ref (sa 0), .ref (ja 0), .ref (ta 0), .ref h, .ref q]))] : va_W)] sz) (va_A ([([(x, .inr (4, [.ref (sa 0), .ref (ja 0), .ref (ta 0), .ref h, .ref q]))] : va_W)] : List va_W).flatten sz)) 1 6 (va_A ([([(x, .inr (4, [.ref (sa 0), .ref (ja 0), .ref (ta 0), .ref h, .ref q]))] : va_W)] : List va_W).flatten sz) := by
  refine wl_ofH (cc := cL_ask) (maxL := 5) (ret := (some .int)) (by decide) rfl (Nat.le_of_ble_eq_true rfl) ?_
  intro p e s m below meth c ls A hx hb hr hts hown hlocks hml htab hsz hAe hP hK hD hX hA hS hl
  rw [hAe] at hX
  have hl : lv_has ls 5 [(0, .ref x), (1, .int (nI 2)), (2, .int y), (3, .int yb0)] := hl
  refine lv_iload_n hx hb dL_ask_0 rfl (lv_at hl 1 rfl) ?_
  refine wl_if_ne (tgt := 13) hx hb 2 dL_ask_1 (by decide) (by omega) (fun c1 => ?_) (fun c1 => absurd c1 (by decide))
  refine lv_iload_n hx hb dL_ask_13 rfl (lv_at hl 1 rfl) ?_
  refine lv_iconst (v := 1) hx hb dL_ask_14 (by decide) ?_
  refine wl_icmp_ne (tgt := 26) hx hb 2 1 dL_ask_15 (by decide) (by omega) (by omega) (fun c2 => ?_) (fun c2 => absurd c2 (by decide))
  refine lv_iload_n hx hb dL_ask_26 rfl (lv_at hl 1 rfl) ?_
  refine lv_iconst (v := 2) hx hb dL_ask_27 (by decide) ?_
  refine wl_icmp_ne (tgt := 39) hx hb 2 2 dL_ask_28 (by decide) (by omega) (by omega) (fun c3 => absurd c3 (by decide)) (fun c3 => ?_)
  refine lv_aload_n hx hb dL_ask_31 rfl (lv_at hl 0 rfl) ?_
  refine lv_iload_n hx hb dL_ask_32 rfl (lv_at hl 2 rfl) ?_
  refine wl_xcall (As := [.int y]) (rest := []) (bsC := [([(x, .inr (4, [.ref (sa 0), .ref (ja 0), .ref (ta 0), .ref h, .ref q]))] : va_W)]) (bsR := []) ⟨hx, hb, hml, hown, hts⟩ (b_X4_count1 l hl0 D cy x sa ja ta h q y s.heap.size hx2) (cwV 1 hts gL_ask_X4_count rfl rfl rfl (by decide +kernel) ⟨Nat.le_of_ble_eq_true rfl, Nat.le_of_ble_eq_true rfl⟩) hX.1 hK hP hD hS hA rfl rfl rfl rfl rfl hl.1 rfl (Nat.le_of_ble_eq_true rfl) dL_ask_33 ⟨Nat.le_of_ble_eq_true rfl, Nat.le_of_ble_eq_true rfl⟩ (fun ce q9 H locs hP hD hS hce hcv hcl9 => ?_)
  refine vx_catch (name := "java/lang/IllegalArgumentException") hown [⟨0, 98, 99, 44⟩] ⟨0, 98, 104, 46⟩ [] (by rw [htab]; rfl) (fun z hz => by rw [List.mem_singleton.mp hz]; exact Or.inr ⟨by decide, _, hts (.classLink RL 44 "java/lang/IndexOutOfBoundsException") (by decide +kernel), hX.2.1⟩) (by decide) (by decide) (hts (.classLink RL 46 "java/lang/IllegalArgumentException") (by decide +kernel)) (va_Nw.use rfl (hX.1.2.1 (.castable "java/lang/IllegalArgumentException" "java/lang/IllegalArgumentException") (by decide +kernel))) hce hcv hcl9 ?_
  refine W.widen (k := 1) (n := 6) (Nat.le_refl _) (Nat.le_refl _) ?_
  refine lv_astore (lv' := [(4, .ref q9), (0, .ref x), (1, .int (nI 2)), (2, .int y), (3, .int yb0)]) hx hb dL_ask_104 hl (by decide) rfl (fun ls hl => ?_)
  refine lv_bipush (v := (-11)) hx hb dL_ask_106 (by decide) ?_
  exact wl_Ri (bs := [([(x, .inr (4, [.ref (sa 0), .ref (ja 0), .ref (ta 0), .ref h, .ref q]))] : va_W)]) (r := (-11)) hx hb hr hlocks hAe hP hD hS (by exact ⟨rfl, rfl⟩) dL_ask_108
set_option maxHeartbeats 4000000 in
set_option maxRecDepth 100000 in
theorem b_a_pulseAt1 (l : Launch) (hl0 : l.stackTraces = false) (D : va_G) (cy : Nat → ClassId) (x : Nat) (sa ja ta : Nat → Nat) (h q : Nat) (y : Int32) (yb0 : Int32) (sz : Nat) (hx2 : y < 0) : Met l yL_ask wsL_ask ({ frames := 7, cells := 1, slots := 6, locals := 111 } : Room) (wl_ic D cy (wl_T9 (va_A ([([(x, .inr (4, [.ref (sa 0), .ref (ja 0), .ref (ta 0), .ref h, .ref q]))] : va_W)] : List va_W).flatten sz)) [([(x, .inr (4, [.ref (sa 0), .ref (ja 0), .ref (ta 0), .ref h, .ref q]))] : va_W)] sz [.ref x, .int (nI 1), .int y, .int yb0]) (va_Qi (fun (r : Int32) (bs : List va_W) => r = (-11) ∧ bs = [([(x, .inr (4, [.ref (sa 0), .ref (ja 0), .ref (ta 0), .ref h, .ref q]))] : va_W)]) (wl_ib D [([(x, .inr (4, [.ref (sa 0), .ref (ja 0), .ref (ta 0), .ref h, .ref q]))] : va_W)] sz) (va_A ([([(x, .inr (4, [.ref (sa 0), .ref (ja 0), .ref (ta 0), .ref h, .ref q]))] : va_W)] : List va_W).flatten sz)) 1 6 (va_A ([([(x, .inr (4, [.ref (sa 0), .ref (ja 0), .ref (ta 0), .ref h, .ref q]))] : va_W)] : List va_W).flatten sz) := by
  refine wl_ofH (cc := cL_ask) (maxL := 5) (ret := (some .int)) (by decide) rfl (Nat.le_of_ble_eq_true rfl) ?_
  intro p e s m below meth c ls A hx hb hr hts hown hlocks hml htab hsz hAe hP hK hD hX hA hS hl
  rw [hAe] at hX
  have hl : lv_has ls 5 [(0, .ref x), (1, .int (nI 1)), (2, .int y), (3, .int yb0)] := hl
  refine lv_iload_n hx hb dL_ask_0 rfl (lv_at hl 1 rfl) ?_
  refine wl_if_ne (tgt := 13) hx hb 1 dL_ask_1 (by decide) (by omega) (fun c1 => ?_) (fun c1 => absurd c1 (by decide))
  refine lv_iload_n hx hb dL_ask_13 rfl (lv_at hl 1 rfl) ?_
  refine lv_iconst (v := 1) hx hb dL_ask_14 (by decide) ?_
  refine wl_icmp_ne (tgt := 26) hx hb 1 1 dL_ask_15 (by decide) (by omega) (by omega) (fun c2 => absurd c2 (by decide)) (fun c2 => ?_)
  refine lv_aload_n hx hb dL_ask_18 rfl (lv_at hl 0 rfl) ?_
  refine lv_iload_n hx hb dL_ask_19 rfl (lv_at hl 2 rfl) ?_
  refine wl_xcall (As := [.int y]) (rest := []) (bsC := [([(x, .inr (4, [.ref (sa 0), .ref (ja 0), .ref (ta 0), .ref h, .ref q]))] : va_W)]) (bsR := []) ⟨hx, hb, hml, hown, hts⟩ (b_X4_pulseAt1 l hl0 D cy x sa ja ta h q y s.heap.size hx2) (cwV 1 hts gL_ask_X4_pulseAt rfl rfl rfl (by decide +kernel) ⟨Nat.le_of_ble_eq_true rfl, Nat.le_of_ble_eq_true rfl⟩) hX.1 hK hP hD hS hA rfl rfl rfl rfl rfl hl.1 rfl (Nat.le_of_ble_eq_true rfl) dL_ask_20 ⟨Nat.le_of_ble_eq_true rfl, Nat.le_of_ble_eq_true rfl⟩ (fun ce q9 H locs hP hD hS hce hcv hcl9 => ?_)
  refine vx_catch (name := "java/lang/IllegalArgumentException") hown [⟨0, 98, 99, 44⟩] ⟨0, 98, 104, 46⟩ [] (by rw [htab]; rfl) (fun z hz => by rw [List.mem_singleton.mp hz]; exact Or.inr ⟨by decide, _, hts (.classLink RL 44 "java/lang/IndexOutOfBoundsException") (by decide +kernel), hX.2.1⟩) (by decide) (by decide) (hts (.classLink RL 46 "java/lang/IllegalArgumentException") (by decide +kernel)) (va_Nw.use rfl (hX.1.2.1 (.castable "java/lang/IllegalArgumentException" "java/lang/IllegalArgumentException") (by decide +kernel))) hce hcv hcl9 ?_
  refine W.widen (k := 1) (n := 6) (Nat.le_refl _) (Nat.le_refl _) ?_
  refine lv_astore (lv' := [(4, .ref q9), (0, .ref x), (1, .int (nI 1)), (2, .int y), (3, .int yb0)]) hx hb dL_ask_104 hl (by decide) rfl (fun ls hl => ?_)
  refine lv_bipush (v := (-11)) hx hb dL_ask_106 (by decide) ?_
  exact wl_Ri (bs := [([(x, .inr (4, [.ref (sa 0), .ref (ja 0), .ref (ta 0), .ref h, .ref q]))] : va_W)]) (r := (-11)) hx hb hr hlocks hAe hP hD hS (by exact ⟨rfl, rfl⟩) dL_ask_108
