/-! the law's call: what is caught -/
set_option maxHeartbeats 4000000 in
set_option maxRecDepth 100000 in
theorem b_c_mode1 (l : Launch) (hl0 : l.stackTraces = false) (D : va_G) (cy : Nat → ClassId) (x : Nat) (sa ja ta : Nat → Nat) (h q : Nat) (y y2 : Int32) (sz : Nat) (hx2 : ¬ (¬ y < 0 ∧ ¬ 8 ≤ y)) : Met l yL_call wsL_call ({ frames := 7, cells := 1, slots := 6, locals := 113 } : Room) (wl_ic D cy (wl_T9 (va_A ([([(x, .inr (4, [.ref (sa 0), .ref (ja 0), .ref (ta 0), .ref h, .ref q]))] : va_W)] : List va_W).flatten sz)) [([(x, .inr (4, [.ref (sa 0), .ref (ja 0), .ref (ta 0), .ref h, .ref q]))] : va_W)] sz [.ref x, .int (nI 0), .int y, .int y2]) (va_Qi (fun (r : Int32) (bs : List va_W) => r = (-10) ∧ bs = [([(x, .inr (4, [.ref (sa 0), .ref (ja 0), .ref (ta 0), .ref h, .ref q]))] : va_W)]) (wl_ib D [([(x, .inr (4, [.ref (sa 0), .ref (ja 0), .ref (ta 0), .ref h, .ref q]))] : va_W)] sz) (va_A ([([(x, .inr (4, [.ref (sa 0), .ref (ja 0), .ref (ta 0), .ref h, .ref q]))] : va_W)] : List va_W).flatten sz)) 1 6 (va_A ([([(x, .inr (4, [.ref (sa 0), .ref (ja 0), .ref (ta 0), .ref h, .ref q]))] : va_W)] : List va_W).flatten sz) := by
  refine wl_ofH (cc := cL_call) (maxL := 5) (ret := (some .int)) (by decide) rfl (Nat.le_of_ble_eq_true rfl) ?_
  intro p e s m below meth c ls A hx hb hr hts hown hlocks hml htab hsz hAe hP hK hD hX hA hS hl
  rw [hAe] at hX
  have hl : lv_has ls 5 [(0, .ref x), (1, .int (nI 0)), (2, .int y), (3, .int y2)] := hl
  refine lv_iload_n hx hb dL_call_0 rfl (lv_at hl 1 rfl) ?_
  refine wl_if_ne (tgt := 13) hx hb 0 dL_call_1 (by decide) (by omega) (fun c1 => absurd c1 (by decide)) (fun c1 => ?_)
  refine lv_aload_n hx hb dL_call_4 rfl (lv_at hl 0 rfl) ?_
  refine lv_iload_n hx hb dL_call_5 rfl (lv_at hl 2 rfl) ?_
  refine lv_iload_n hx hb dL_call_6 rfl (lv_at hl 3 rfl) ?_
  refine wl_xcall (As := [.int y, .int y2]) (rest := []) (bsC := [([(x, .inr (4, [.ref (sa 0), .ref (ja 0), .ref (ta 0), .ref h, .ref q]))] : va_W)]) (bsR := []) ⟨hx, hb, hml, hown, hts⟩ (b_X4_mode1 l hl0 D cy x sa ja ta h q y y2 s.heap.size hx2) (cwV 2 hts gL_call_X4_mode rfl rfl rfl (by decide +kernel) ⟨Nat.le_of_ble_eq_true rfl, Nat.le_of_ble_eq_true rfl⟩) hX.1 hK hP hD hS hA rfl rfl rfl rfl rfl hl.1 rfl (Nat.le_of_ble_eq_true rfl) dL_call_7 ⟨Nat.le_of_ble_eq_true rfl, Nat.le_of_ble_eq_true rfl⟩ (fun ce q9 H locs hP hD hS hce hcv hcl9 => ?_)
  refine vx_catch (name := "java/lang/IndexOutOfBoundsException") hown [] ⟨0, 125, 126, 44⟩ [⟨0, 125, 131, 46⟩, ⟨0, 125, 136, 48⟩] (by rw [htab]; rfl) (fun z hz => nomatch hz) (by decide) (by decide) (hts (.classLink RL 44 "java/lang/IndexOutOfBoundsException") (by decide +kernel)) (va_Nw.use rfl (hX.1.2.1 (.castable "java/lang/IndexOutOfBoundsException" "java/lang/IndexOutOfBoundsException") (by decide +kernel))) hce hcv hcl9 ?_
  refine W.widen (k := 1) (n := 6) (Nat.le_refl _) (Nat.le_refl _) ?_
  refine lv_astore (lv' := [(4, .ref q9), (0, .ref x), (1, .int (nI 0)), (2, .int y), (3, .int y2)]) hx hb dL_call_126 hl (by decide) rfl (fun ls hl => ?_)
  refine lv_bipush (v := (-10)) hx hb dL_call_128 (by decide) ?_
  exact wl_Ri (bs := [([(x, .inr (4, [.ref (sa 0), .ref (ja 0), .ref (ta 0), .ref h, .ref q]))] : va_W)]) (r := (-10)) hx hb hr hlocks hAe hP hD hS (by exact ⟨rfl, rfl⟩) dL_call_130
set_option maxHeartbeats 4000000 in
set_option maxRecDepth 100000 in
theorem b_c_loss1 (l : Launch) (hl0 : l.stackTraces = false) (D : va_G) (cy : Nat → ClassId) (x : Nat) (sa ja ta : Nat → Nat) (h q : Nat) (y y2 : Int32) (sz : Nat) (hx2 : ¬ (¬ y < 0 ∧ ¬ 8 ≤ y)) : Met l yL_call wsL_call ({ frames := 7, cells := 1, slots := 6, locals := 113 } : Room) (wl_ic D cy (wl_T9 (va_A ([([(x, .inr (4, [.ref (sa 0), .ref (ja 0), .ref (ta 0), .ref h, .ref q]))] : va_W)] : List va_W).flatten sz)) [([(x, .inr (4, [.ref (sa 0), .ref (ja 0), .ref (ta 0), .ref h, .ref q]))] : va_W)] sz [.ref x, .int (nI 1), .int y, .int y2]) (va_Qi (fun (r : Int32) (bs : List va_W) => r = (-10) ∧ bs = [([(x, .inr (4, [.ref (sa 0), .ref (ja 0), .ref (ta 0), .ref h, .ref q]))] : va_W)]) (wl_ib D [([(x, .inr (4, [.ref (sa 0), .ref (ja 0), .ref (ta 0), .ref h, .ref q]))] : va_W)] sz) (va_A ([([(x, .inr (4, [.ref (sa 0), .ref (ja 0), .ref (ta 0), .ref h, .ref q]))] : va_W)] : List va_W).flatten sz)) 1 6 (va_A ([([(x, .inr (4, [.ref (sa 0), .ref (ja 0), .ref (ta 0), .ref h, .ref q]))] : va_W)] : List va_W).flatten sz) := by
  refine wl_ofH (cc := cL_call) (maxL := 5) (ret := (some .int)) (by decide) rfl (Nat.le_of_ble_eq_true rfl) ?_
  intro p e s m below meth c ls A hx hb hr hts hown hlocks hml htab hsz hAe hP hK hD hX hA hS hl
  rw [hAe] at hX
  have hl : lv_has ls 5 [(0, .ref x), (1, .int (nI 1)), (2, .int y), (3, .int y2)] := hl
  refine lv_iload_n hx hb dL_call_0 rfl (lv_at hl 1 rfl) ?_
  refine wl_if_ne (tgt := 13) hx hb 1 dL_call_1 (by decide) (by omega) (fun c1 => ?_) (fun c1 => absurd c1 (by decide))
  refine lv_iload_n hx hb dL_call_13 rfl (lv_at hl 1 rfl) ?_
  refine lv_iconst (v := 1) hx hb dL_call_14 (by decide) ?_
  refine wl_icmp_ne (tgt := 27) hx hb 1 1 dL_call_15 (by decide) (by omega) (by omega) (fun c2 => absurd c2 (by decide)) (fun c2 => ?_)
  refine lv_aload_n hx hb dL_call_18 rfl (lv_at hl 0 rfl) ?_
  refine lv_iload_n hx hb dL_call_19 rfl (lv_at hl 2 rfl) ?_
  refine lv_iload_n hx hb dL_call_20 rfl (lv_at hl 3 rfl) ?_
  refine wl_xcall (As := [.int y, .int y2]) (rest := []) (bsC := [([(x, .inr (4, [.ref (sa 0), .ref (ja 0), .ref (ta 0), .ref h, .ref q]))] : va_W)]) (bsR := []) ⟨hx, hb, hml, hown, hts⟩ (b_X4_loss1 l hl0 D cy x sa ja ta h q y y2 s.heap.size hx2) (cwV 2 hts gL_call_X4_loss rfl rfl rfl (by decide +kernel) ⟨Nat.le_of_ble_eq_true rfl, Nat.le_of_ble_eq_true rfl⟩) hX.1 hK hP hD hS hA rfl rfl rfl rfl rfl hl.1 rfl (Nat.le_of_ble_eq_true rfl) dL_call_21 ⟨Nat.le_of_ble_eq_true rfl, Nat.le_of_ble_eq_true rfl⟩ (fun ce q9 H locs hP hD hS hce hcv hcl9 => ?_)
  refine vx_catch (name := "java/lang/IndexOutOfBoundsException") hown [] ⟨0, 125, 126, 44⟩ [⟨0, 125, 131, 46⟩, ⟨0, 125, 136, 48⟩] (by rw [htab]; rfl) (fun z hz => nomatch hz) (by decide) (by decide) (hts (.classLink RL 44 "java/lang/IndexOutOfBoundsException") (by decide +kernel)) (va_Nw.use rfl (hX.1.2.1 (.castable "java/lang/IndexOutOfBoundsException" "java/lang/IndexOutOfBoundsException") (by decide +kernel))) hce hcv hcl9 ?_
  refine W.widen (k := 1) (n := 6) (Nat.le_refl _) (Nat.le_refl _) ?_
  refine lv_astore (lv' := [(4, .ref q9), (0, .ref x), (1, .int (nI 1)), (2, .int y), (3, .int y2)]) hx hb dL_call_126 hl (by decide) rfl (fun ls hl => ?_)
  refine lv_bipush (v := (-10)) hx hb dL_call_128 (by decide) ?_
  exact wl_Ri (bs := [([(x, .inr (4, [.ref (sa 0), .ref (ja 0), .ref (ta 0), .ref h, .ref q]))] : va_W)]) (r := (-10)) hx hb hr hlocks hAe hP hD hS (by exact ⟨rfl, rfl⟩) dL_call_130
set_option maxHeartbeats 4000000 in
set_option maxRecDepth 100000 in
theorem b_c_set1 (l : Launch) (hl0 : l.stackTraces = false) (D : va_G) (cy : Nat → ClassId) (x : Nat) (sa ja ta : Nat → Nat) (h q : Nat) (y y2 : Int32) (sz : Nat) (hx2 : ¬ (¬ y < 0 ∧ ¬ 3 ≤ y)) : Met l yL_call wsL_call ({ frames := 7, cells := 1, slots := 6, locals := 113 } : Room) (wl_ic D cy (wl_T9 (va_A ([([(x, .inr (4, [.ref (sa 0), .ref (ja 0), .ref (ta 0), .ref h, .ref q]))] : va_W)] : List va_W).flatten sz)) [([(x, .inr (4, [.ref (sa 0), .ref (ja 0), .ref (ta 0), .ref h, .ref q]))] : va_W)] sz [.ref x, .int (nI 2), .int y, .int y2]) (va_Qi (fun (r : Int32) (bs : List va_W) => r = (-10) ∧ bs = [([(x, .inr (4, [.ref (sa 0), .ref (ja 0), .ref (ta 0), .ref h, .ref q]))] : va_W)]) (wl_ib D [([(x, .inr (4, [.ref (sa 0), .ref (ja 0), .ref (ta 0), .ref h, .ref q]))] : va_W)] sz) (va_A ([([(x, .inr (4, [.ref (sa 0), .ref (ja 0), .ref (ta 0), .ref h, .ref q]))] : va_W)] : List va_W).flatten sz)) 1 6 (va_A ([([(x, .inr (4, [.ref (sa 0), .ref (ja 0), .ref (ta 0), .ref h, .ref q]))] : va_W)] : List va_W).flatten sz) := by
  refine wl_ofH (cc := cL_call) (maxL := 5) (ret := (some .int)) (by decide) rfl (Nat.le_of_ble_eq_true rfl) ?_
  intro p e s m below meth c ls A hx hb hr hts hown hlocks hml htab hsz hAe hP hK hD hX hA hS hl
  rw [hAe] at hX
  have hl : lv_has ls 5 [(0, .ref x), (1, .int (nI 2)), (2, .int y), (3, .int y2)] := hl
  refine lv_iload_n hx hb dL_call_0 rfl (lv_at hl 1 rfl) ?_
  refine wl_if_ne (tgt := 13) hx hb 2 dL_call_1 (by decide) (by omega) (fun c1 => ?_) (fun c1 => absurd c1 (by decide))
  refine lv_iload_n hx hb dL_call_13 rfl (lv_at hl 1 rfl) ?_
  refine lv_iconst (v := 1) hx hb dL_call_14 (by decide) ?_
  refine wl_icmp_ne (tgt := 27) hx hb 2 1 dL_call_15 (by decide) (by omega) (by omega) (fun c2 => ?_) (fun c2 => absurd c2 (by decide))
  refine lv_iload_n hx hb dL_call_27 rfl (lv_at hl 1 rfl) ?_
  refine lv_iconst (v := 2) hx hb dL_call_28 (by decide) ?_
  refine wl_icmp_ne (tgt := 41) hx hb 2 2 dL_call_29 (by decide) (by omega) (by omega) (fun c3 => absurd c3 (by decide)) (fun c3 => ?_)
  refine lv_aload_n hx hb dL_call_32 rfl (lv_at hl 0 rfl) ?_
  refine lv_iload_n hx hb dL_call_33 rfl (lv_at hl 2 rfl) ?_
  refine lv_iload_n hx hb dL_call_34 rfl (lv_at hl 3 rfl) ?_
  refine wl_xcall (As := [.int y, .int y2]) (rest := []) (bsC := [([(x, .inr (4, [.ref (sa 0), .ref (ja 0), .ref (ta 0), .ref h, .ref q]))] : va_W)]) (bsR := []) ⟨hx, hb, hml, hown, hts⟩ (b_X4_set1 l hl0 D cy x sa ja ta h q y y2 s.heap.size hx2) (cwV 2 hts gL_call_X4_set rfl rfl rfl (by decide +kernel) ⟨Nat.le_of_ble_eq_true rfl, Nat.le_of_ble_eq_true rfl⟩) hX.1 hK hP hD hS hA rfl rfl rfl rfl rfl hl.1 rfl (Nat.le_of_ble_eq_true rfl) dL_call_35 ⟨Nat.le_of_ble_eq_true rfl, Nat.le_of_ble_eq_true rfl⟩ (fun ce q9 H locs hP hD hS hce hcv hcl9 => ?_)
  refine vx_catch (name := "java/lang/IndexOutOfBoundsException") hown [] ⟨0, 125, 126, 44⟩ [⟨0, 125, 131, 46⟩, ⟨0, 125, 136, 48⟩] (by rw [htab]; rfl) (fun z hz => nomatch hz) (by decide) (by decide) (hts (.classLink RL 44 "java/lang/IndexOutOfBoundsException") (by decide +kernel)) (va_Nw.use rfl (hX.1.2.1 (.castable "java/lang/IndexOutOfBoundsException" "java/lang/IndexOutOfBoundsException") (by decide +kernel))) hce hcv hcl9 ?_
  refine W.widen (k := 1) (n := 6) (Nat.le_refl _) (Nat.le_refl _) ?_
  refine lv_astore (lv' := [(4, .ref q9), (0, .ref x), (1, .int (nI 2)), (2, .int y), (3, .int y2)]) hx hb dL_call_126 hl (by decide) rfl (fun ls hl => ?_)
  refine lv_bipush (v := (-10)) hx hb dL_call_128 (by decide) ?_
  exact wl_Ri (bs := [([(x, .inr (4, [.ref (sa 0), .ref (ja 0), .ref (ta 0), .ref h, .ref q]))] : va_W)]) (r := (-10)) hx hb hr hlocks hAe hP hD hS (by exact ⟨rfl, rfl⟩) dL_call_130
set_option maxHeartbeats 4000000 in
set_option maxRecDepth 100000 in
theorem b_c_keep1 (l : Launch) (hl0 : l.stackTraces = false) (D : va_G) (cy : Nat → ClassId) (x : Nat) (sa ja ta : Nat → Nat) (h q : Nat) (y : Int32) (yb0 : Int32) (sz : Nat) (hx2 : ¬ (¬ y < 0 ∧ ¬ 2 ≤ y)) : Met l yL_call wsL_call ({ frames := 7, cells := 1, slots := 6, locals := 112 } : Room) (wl_ic D cy (wl_T9 (va_A ([([(x, .inr (4, [.ref (sa 0), .ref (ja 0), .ref (ta 0), .ref h, .ref q]))] : va_W)] : List va_W).flatten sz)) [([(x, .inr (4, [.ref (sa 0), .ref (ja 0), .ref (ta 0), .ref h, .ref q]))] : va_W)] sz [.ref x, .int (nI 7), .int y, .int yb0]) (va_Qi (fun (r : Int32) (bs : List va_W) => r = (-11) ∧ bs = [([(x, .inr (4, [.ref (sa 0), .ref (ja 0), .ref (ta 0), .ref h, .ref q]))] : va_W)]) (wl_ib D [([(x, .inr (4, [.ref (sa 0), .ref (ja 0), .ref (ta 0), .ref h, .ref q]))] : va_W)] sz) (va_A ([([(x, .inr (4, [.ref (sa 0), .ref (ja 0), .ref (ta 0), .ref h, .ref q]))] : va_W)] : List va_W).flatten sz)) 1 6 (va_A ([([(x, .inr (4, [.ref (sa 0), .ref (ja 0), .ref (ta 0), .ref h, .ref q]))] : va_W)] : List va_W).flatten sz) := by
  refine wl_ofH (cc := cL_call) (maxL := 5) (ret := (some .int)) (by decide) rfl (Nat.le_of_ble_eq_true rfl) ?_
  intro p e s m below meth c ls A hx hb hr hts hown hlocks hml htab hsz hAe hP hK hD hX hA hS hl
  rw [hAe] at hX
  have hl : lv_has ls 5 [(0, .ref x), (1, .int (nI 7)), (2, .int y), (3, .int yb0)] := hl
  refine lv_iload_n hx hb dL_call_0 rfl (lv_at hl 1 rfl) ?_
  refine wl_if_ne (tgt := 13) hx hb 7 dL_call_1 (by decide) (by omega) (fun c1 => ?_) (fun c1 => absurd c1 (by decide))
  refine lv_iload_n hx hb dL_call_13 rfl (lv_at hl 1 rfl) ?_
  refine lv_iconst (v := 1) hx hb dL_call_14 (by decide) ?_
  refine wl_icmp_ne (tgt := 27) hx hb 7 1 dL_call_15 (by decide) (by omega) (by omega) (fun c2 => ?_) (fun c2 => absurd c2 (by decide))
  refine lv_iload_n hx hb dL_call_27 rfl (lv_at hl 1 rfl) ?_
  refine lv_iconst (v := 2) hx hb dL_call_28 (by decide) ?_
  refine wl_icmp_ne (tgt := 41) hx hb 7 2 dL_call_29 (by decide) (by omega) (by omega) (fun c3 => ?_) (fun c3 => absurd c3 (by decide))
  refine lv_iload_n hx hb dL_call_41 rfl (lv_at hl 1 rfl) ?_
  refine lv_iconst (v := 3) hx hb dL_call_42 (by decide) ?_
  refine wl_icmp_ne (tgt := 54) hx hb 7 3 dL_call_43 (by decide) (by omega) (by omega) (fun c4 => ?_) (fun c4 => absurd c4 (by decide))
  refine lv_iload_n hx hb dL_call_54 rfl (lv_at hl 1 rfl) ?_
  refine lv_iconst (v := 4) hx hb dL_call_55 (by decide) ?_
  refine wl_icmp_ne (tgt := 67) hx hb 7 4 dL_call_56 (by decide) (by omega) (by omega) (fun c5 => ?_) (fun c5 => absurd c5 (by decide))
  refine lv_iload_n hx hb dL_call_67 rfl (lv_at hl 1 rfl) ?_
  refine lv_iconst (v := 5) hx hb dL_call_68 (by decide) ?_
  refine wl_icmp_ne (tgt := 80) hx hb 7 5 dL_call_69 (by decide) (by omega) (by omega) (fun c6 => ?_) (fun c6 => absurd c6 (by decide))
  refine lv_iload_n hx hb dL_call_80 rfl (lv_at hl 1 rfl) ?_
  refine lv_bipush (v := 6) hx hb dL_call_81 (by decide) ?_
  refine wl_icmp_ne (tgt := 93) hx hb 7 6 dL_call_83 (by decide) (by omega) (by omega) (fun c7 => ?_) (fun c7 => absurd c7 (by decide))
  refine lv_iload_n hx hb dL_call_93 rfl (lv_at hl 1 rfl) ?_
  refine lv_bipush (v := 7) hx hb dL_call_94 (by decide) ?_
  refine wl_icmp_ne (tgt := 107) hx hb 7 7 dL_call_96 (by decide) (by omega) (by omega) (fun c8 => absurd c8 (by decide)) (fun c8 => ?_)
  refine lv_aload_n hx hb dL_call_99 rfl (lv_at hl 0 rfl) ?_
  refine lv_iload_n hx hb dL_call_100 rfl (lv_at hl 2 rfl) ?_
  refine wl_xcall (As := [.int y]) (rest := []) (bsC := [([(x, .inr (4, [.ref (sa 0), .ref (ja 0), .ref (ta 0), .ref h, .ref q]))] : va_W)]) (bsR := []) ⟨hx, hb, hml, hown, hts⟩ (b_X4_keep1 l hl0 D cy x sa ja ta h q y s.heap.size hx2) (cwV 1 hts gL_call_X4_keep rfl rfl rfl (by decide +kernel) ⟨Nat.le_of_ble_eq_true rfl, Nat.le_of_ble_eq_true rfl⟩) hX.1 hK hP hD hS hA rfl rfl rfl rfl rfl hl.1 rfl (Nat.le_of_ble_eq_true rfl) dL_call_101 ⟨Nat.le_of_ble_eq_true rfl, Nat.le_of_ble_eq_true rfl⟩ (fun ce q9 H locs hP hD hS hce hcv hcl9 => ?_)
  refine vx_catch (name := "java/lang/IllegalArgumentException") hown [⟨0, 125, 126, 44⟩] ⟨0, 125, 131, 46⟩ [⟨0, 125, 136, 48⟩] (by rw [htab]; rfl) (fun z hz => by rw [List.mem_singleton.mp hz]; exact Or.inr ⟨by decide, _, hts (.classLink RL 44 "java/lang/IndexOutOfBoundsException") (by decide +kernel), hX.2.1⟩) (by decide) (by decide) (hts (.classLink RL 46 "java/lang/IllegalArgumentException") (by decide +kernel)) (va_Nw.use rfl (hX.1.2.1 (.castable "java/lang/IllegalArgumentException" "java/lang/IllegalArgumentException") (by decide +kernel))) hce hcv hcl9 ?_
  refine W.widen (k := 1) (n := 6) (Nat.le_refl _) (Nat.le_refl _) ?_
  refine lv_astore (lv' := [(4, .ref q9), (0, .ref x), (1, .int (nI 7)), (2, .int y), (3, .int yb0)]) hx hb dL_call_131 hl (by decide) rfl (fun ls hl => ?_)
  refine lv_bipush (v := (-11)) hx hb dL_call_133 (by decide) ?_
  exact wl_Ri (bs := [([(x, .inr (4, [.ref (sa 0), .ref (ja 0), .ref (ta 0), .ref h, .ref q]))] : va_W)]) (r := (-11)) hx hb hr hlocks hAe hP hD hS (by exact ⟨rfl, rfl⟩) dL_call_135
set_option maxHeartbeats 4000000 in
set_option maxRecDepth 100000 in
theorem b_c_goBack1 (l : Launch) (hl0 : l.stackTraces = false) (D : va_G) (cy : Nat → ClassId) (x : Nat) (sa ja ta : Nat → Nat) (h q : Nat) (y : Int32) (yb0 : Int32) (sz : Nat) (hx2 : ¬ (¬ y < 0 ∧ ¬ 2 ≤ y)) : Met l yL_call wsL_call ({ frames := 7, cells := 1, slots := 6, locals := 112 } : Room) (wl_ic D cy (wl_T9 (va_A ([([(x, .inr (4, [.ref (sa 0), .ref (ja 0), .ref (ta 0), .ref h, .ref q]))] : va_W)] : List va_W).flatten sz)) [([(x, .inr (4, [.ref (sa 0), .ref (ja 0), .ref (ta 0), .ref h, .ref q]))] : va_W)] sz [.ref x, .int (nI 8), .int y, .int yb0]) (va_Qi (fun (r : Int32) (bs : List va_W) => r = (-11) ∧ bs = [([(x, .inr (4, [.ref (sa 0), .ref (ja 0), .ref (ta 0), .ref h, .ref q]))] : va_W)]) (wl_ib D [([(x, .inr (4, [.ref (sa 0), .ref (ja 0), .ref (ta 0), .ref h, .ref q]))] : va_W)] sz) (va_A ([([(x, .inr (4, [.ref (sa 0), .ref (ja 0), .ref (ta 0), .ref h, .ref q]))] : va_W)] : List va_W).flatten sz)) 1 6 (va_A ([([(x, .inr (4, [.ref (sa 0), .ref (ja 0), .ref (ta 0), .ref h, .ref q]))] : va_W)] : List va_W).flatten sz) := by
  refine wl_ofH (cc := cL_call) (maxL := 5) (ret := (some .int)) (by decide) rfl (Nat.le_of_ble_eq_true rfl) ?_
  intro p e s m below meth c ls A hx hb hr hts hown hlocks hml htab hsz hAe hP hK hD hX hA hS hl
  rw [hAe] at hX
  have hl : lv_has ls 5 [(0, .ref x), (1, .int (nI 8)), (2, .int y), (3, .int yb0)] := hl
  refine lv_iload_n hx hb dL_call_0 rfl (lv_at hl 1 rfl) ?_
  refine wl_if_ne (tgt := 13) hx hb 8 dL_call_1 (by decide) (by omega) (fun c1 => ?_) (fun c1 => absurd c1 (by decide))
  refine lv_iload_n hx hb dL_call_13 rfl (lv_at hl 1 rfl) ?_
  refine lv_iconst (v := 1) hx hb dL_call_14 (by decide) ?_
  refine wl_icmp_ne (tgt := 27) hx hb 8 1 dL_call_15 (by decide) (by omega) (by omega) (fun c2 => ?_) (fun c2 => absurd c2 (by decide))
  refine lv_iload_n hx hb dL_call_27 rfl (lv_at hl 1 rfl) ?_
  refine lv_iconst (v := 2) hx hb dL_call_28 (by decide) ?_
  refine wl_icmp_ne (tgt := 41) hx hb 8 2 dL_call_29 (by decide) (by omega) (by omega) (fun c3 => ?_) (fun c3 => absurd c3 (by decide))
  refine lv_iload_n hx hb dL_call_41 rfl (lv_at hl 1 rfl) ?_
  refine lv_iconst (v := 3) hx hb dL_call_42 (by decide) ?_
  refine wl_icmp_ne (tgt := 54) hx hb 8 3 dL_call_43 (by decide) (by omega) (by omega) (fun c4 => ?_) (fun c4 => absurd c4 (by decide))
  refine lv_iload_n hx hb dL_call_54 rfl (lv_at hl 1 rfl) ?_
  refine lv_iconst (v := 4) hx hb dL_call_55 (by decide) ?_
  refine wl_icmp_ne (tgt := 67) hx hb 8 4 dL_call_56 (by decide) (by omega) (by omega) (fun c5 => ?_) (fun c5 => absurd c5 (by decide))
  refine lv_iload_n hx hb dL_call_67 rfl (lv_at hl 1 rfl) ?_
  refine lv_iconst (v := 5) hx hb dL_call_68 (by decide) ?_
  refine wl_icmp_ne (tgt := 80) hx hb 8 5 dL_call_69 (by decide) (by omega) (by omega) (fun c6 => ?_) (fun c6 => absurd c6 (by decide))
  refine lv_iload_n hx hb dL_call_80 rfl (lv_at hl 1 rfl) ?_
  refine lv_bipush (v := 6) hx hb dL_call_81 (by decide) ?_
  refine wl_icmp_ne (tgt := 93) hx hb 8 6 dL_call_83 (by decide) (by omega) (by omega) (fun c7 => ?_) (fun c7 => absurd c7 (by decide))
  refine lv_iload_n hx hb dL_call_93 rfl (lv_at hl 1 rfl) ?_
  refine lv_bipush (v := 7) hx hb dL_call_94 (by decide) ?_
  refine wl_icmp_ne (tgt := 107) hx hb 8 7 dL_call_96 (by decide) (by omega) (by omega) (fun c8 => ?_) (fun c8 => absurd c8 (by decide))
  refine lv_iload_n hx hb dL_call_107 rfl (lv_at hl 1 rfl) ?_
  refine lv_bipush (v := 8) hx hb dL_call_108 (by decide) ?_
  refine wl_icmp_ne (tgt := 121) hx hb 8 8 dL_call_110 (by decide) (by omega) (by omega) (fun c9 => absurd c9 (by decide)) (fun c9 => ?_)
  refine lv_aload_n hx hb dL_call_113 rfl (lv_at hl 0 rfl) ?_
  refine lv_iload_n hx hb dL_call_114 rfl (lv_at hl 2 rfl) ?_
  refine wl_xcall (As := [.int y]) (rest := []) (bsC := [([(x, .inr (4, [.ref (sa 0), .ref (ja 0), .ref (ta 0), .ref h, .ref q]))] : va_W)]) (bsR := []) ⟨hx, hb, hml, hown, hts⟩ (b_X4_goBack1 l hl0 D cy x sa ja ta h q y s.heap.size hx2) (cwV 1 hts gL_call_X4_goBack rfl rfl rfl (by decide +kernel) ⟨Nat.le_of_ble_eq_true rfl, Nat.le_of_ble_eq_true rfl⟩) hX.1 hK hP hD hS hA rfl rfl rfl rfl rfl hl.1 rfl (Nat.le_of_ble_eq_true rfl) dL_call_115 ⟨Nat.le_of_ble_eq_true rfl, Nat.le_of_ble_eq_true rfl⟩ (fun ce q9 H locs hP hD hS hce hcv hcl9 => ?_)
  refine vx_catch (name := "java/lang/IllegalArgumentException") hown [⟨0, 125, 126, 44⟩] ⟨0, 125, 131, 46⟩ [⟨0, 125, 136, 48⟩] (by rw [htab]; rfl) (fun z hz => by rw [List.mem_singleton.mp hz]; exact Or.inr ⟨by decide, _, hts (.classLink RL 44 "java/lang/IndexOutOfBoundsException") (by decide +kernel), hX.2.1⟩) (by decide) (by decide) (hts (.classLink RL 46 "java/lang/IllegalArgumentException") (by decide +kernel)) (va_Nw.use rfl (hX.1.2.1 (.castable "java/lang/IllegalArgumentException" "java/lang/IllegalArgumentException") (by decide +kernel))) hce hcv hcl9 ?_
  refine W.widen (k := 1) (n := 6) (Nat.le_refl _) (Nat.le_refl _) ?_
  refine lv_astore (lv' := [(4, .ref q9), (0, .ref x), (1, .int (nI 8)), (2, .int y), (3, .int yb0)]) hx hb dL_call_131 hl (by decide) rfl (fun ls hl => ?_)
  refine lv_bipush (v := (-11)) hx hb dL_call_133 (by decide) ?_
  exact wl_Ri (bs := [([(x, .inr (4, [.ref (sa 0), .ref (ja 0), .ref (ta 0), .ref h, .ref q]))] : va_W)]) (r := (-11)) hx hb hr hlocks hAe hP hD hS (by exact ⟨rfl, rfl⟩) dL_call_135
set_option maxHeartbeats 4000000 in
set_option maxRecDepth 100000 in
theorem b_c_send1 (l : Launch) (hl0 : l.stackTraces = false) (D : va_G) (cy : Nat → ClassId) (x : Nat) (sa ja ta : Nat → Nat) (h q : Nat) (y : Int32) (yb0 : Int32) (sz : Nat) (hx2 : ¬ (¬ y < 0 ∧ ¬ 4095 < y)) : Met l yL_call wsL_call ({ frames := 7, cells := 1, slots := 6, locals := 111 } : Room) (wl_ic D cy (wl_T9 (va_A ([([(x, .inr (4, [.ref (sa 0), .ref (ja 0), .ref (ta 0), .ref h, .ref q]))] : va_W)] : List va_W).flatten sz)) [([(x, .inr (4, [.ref (sa 0), .ref (ja 0), .ref (ta 0), .ref h, .ref q]))] : va_W)] sz [.ref x, .int (nI 4), .int y, .int yb0]) (va_Qi (fun (r : Int32) (bs : List va_W) => r = (-11) ∧ bs = [([(x, .inr (4, [.ref (sa 0), .ref (ja 0), .ref (ta 0), .ref h, .ref q]))] : va_W)]) (wl_ib D [([(x, .inr (4, [.ref (sa 0), .ref (ja 0), .ref (ta 0), .ref h, .ref q]))] : va_W)] sz) (va_A ([([(x, .inr (4, [.ref (sa 0), .ref (ja 0), .ref (ta 0), .ref h, .ref q]))] : va_W)] : List va_W).flatten sz)) 1 6 (va_A ([([(x, .inr (4, [.ref (sa 0), .ref (ja 0), .ref (ta 0), .ref h, .ref q]))] : va_W)] : List va_W).flatten sz) := by
  refine wl_ofH (cc := cL_call) (maxL := 5) (ret := (some .int)) (by decide) rfl (Nat.le_of_ble_eq_true rfl) ?_
  intro p e s m below meth c ls A hx hb hr hts hown hlocks hml htab hsz hAe hP hK hD hX hA hS hl
  rw [hAe] at hX
  have hl : lv_has ls 5 [(0, .ref x), (1, .int (nI 4)), (2, .int y), (3, .int yb0)] := hl
  refine lv_iload_n hx hb dL_call_0 rfl (lv_at hl 1 rfl) ?_
  refine wl_if_ne (tgt := 13) hx hb 4 dL_call_1 (by decide) (by omega) (fun c1 => ?_) (fun c1 => absurd c1 (by decide))
  refine lv_iload_n hx hb dL_call_13 rfl (lv_at hl 1 rfl) ?_
  refine lv_iconst (v := 1) hx hb dL_call_14 (by decide) ?_
  refine wl_icmp_ne (tgt := 27) hx hb 4 1 dL_call_15 (by decide) (by omega) (by omega) (fun c2 => ?_) (fun c2 => absurd c2 (by decide))
  refine lv_iload_n hx hb dL_call_27 rfl (lv_at hl 1 rfl) ?_
  refine lv_iconst (v := 2) hx hb dL_call_28 (by decide) ?_
  refine wl_icmp_ne (tgt := 41) hx hb 4 2 dL_call_29 (by decide) (by omega) (by omega) (fun c3 => ?_) (fun c3 => absurd c3 (by decide))
  refine lv_iload_n hx hb dL_call_41 rfl (lv_at hl 1 rfl) ?_
  refine lv_iconst (v := 3) hx hb dL_call_42 (by decide) ?_
  refine wl_icmp_ne (tgt := 54) hx hb 4 3 dL_call_43 (by decide) (by omega) (by omega) (fun c4 => ?_) (fun c4 => absurd c4 (by decide))
  refine lv_iload_n hx hb dL_call_54 rfl (lv_at hl 1 rfl) ?_
  refine lv_iconst (v := 4) hx hb dL_call_55 (by decide) ?_
  refine wl_icmp_ne (tgt := 67) hx hb 4 4 dL_call_56 (by decide) (by omega) (by omega) (fun c5 => absurd c5 (by decide)) (fun c5 => ?_)
  refine lv_aload_n hx hb dL_call_59 rfl (lv_at hl 0 rfl) ?_
  refine lv_iload_n hx hb dL_call_60 rfl (lv_at hl 2 rfl) ?_
  refine wl_xcall (As := [.int y]) (rest := []) (bsC := [([(x, .inr (4, [.ref (sa 0), .ref (ja 0), .ref (ta 0), .ref h, .ref q]))] : va_W)]) (bsR := []) ⟨hx, hb, hml, hown, hts⟩ (b_X4_send1 l hl0 D cy x sa ja ta h q y s.heap.size hx2) (cwV 1 hts gL_call_X4_send rfl rfl rfl (by decide +kernel) ⟨Nat.le_of_ble_eq_true rfl, Nat.le_of_ble_eq_true rfl⟩) hX.1 hK hP hD hS hA rfl rfl rfl rfl rfl hl.1 rfl (Nat.le_of_ble_eq_true rfl) dL_call_61 ⟨Nat.le_of_ble_eq_true rfl, Nat.le_of_ble_eq_true rfl⟩ (fun ce q9 H locs hP hD hS hce hcv hcl9 => ?_)
  refine vx_catch (name := "java/lang/IllegalArgumentException") hown [⟨0, 125, 126, 44⟩] ⟨0, 125, 131, 46⟩ [⟨0, 125, 136, 48⟩] (by rw [htab]; rfl) (fun z hz => by rw [List.mem_singleton.mp hz]; exact Or.inr ⟨by decide, _, hts (.classLink RL 44 "java/lang/IndexOutOfBoundsException") (by decide +kernel), hX.2.1⟩) (by decide) (by decide) (hts (.classLink RL 46 "java/lang/IllegalArgumentException") (by decide +kernel)) (va_Nw.use rfl (hX.1.2.1 (.castable "java/lang/IllegalArgumentException" "java/lang/IllegalArgumentException") (by decide +kernel))) hce hcv hcl9 ?_
  refine W.widen (k := 1) (n := 6) (Nat.le_refl _) (Nat.le_refl _) ?_
  refine lv_astore (lv' := [(4, .ref q9), (0, .ref x), (1, .int (nI 4)), (2, .int y), (3, .int yb0)]) hx hb dL_call_131 hl (by decide) rfl (fun ls hl => ?_)
  refine lv_bipush (v := (-11)) hx hb dL_call_133 (by decide) ?_
  exact wl_Ri (bs := [([(x, .inr (4, [.ref (sa 0), .ref (ja 0), .ref (ta 0), .ref h, .ref q]))] : va_W)]) (r := (-11)) hx hb hr hlocks hAe hP hD hS (by exact ⟨rfl, rfl⟩) dL_call_135
set_option maxHeartbeats 4000000 in
set_option maxRecDepth 100000 in
theorem b_c_mode2 (l : Launch) (hl0 : l.stackTraces = false) (D : va_G) (cy : Nat → ClassId) (x : Nat) (sa ja ta : Nat → Nat) (h q : Nat) (i : Nat) (y : Int32) (sz : Nat) (hi : i < 8) (hx2 : ¬ (¬ y < 0 ∧ ¬ 3 < y)) : Met l yL_call wsL_call ({ frames := 7, cells := 1, slots := 6, locals := 113 } : Room) (wl_ic D cy (wl_T9 (va_A ([([(x, .inr (4, [.ref (sa 0), .ref (ja 0), .ref (ta 0), .ref h, .ref q]))] : va_W)] : List va_W).flatten sz)) [([(x, .inr (4, [.ref (sa 0), .ref (ja 0), .ref (ta 0), .ref h, .ref q]))] : va_W)] sz [.ref x, .int (nI 0), .int (nI i), .int y]) (va_Qi (fun (r : Int32) (bs : List va_W) => r = (-11) ∧ bs = [([(x, .inr (4, [.ref (sa 0), .ref (ja 0), .ref (ta 0), .ref h, .ref q]))] : va_W)]) (wl_ib D [([(x, .inr (4, [.ref (sa 0), .ref (ja 0), .ref (ta 0), .ref h, .ref q]))] : va_W)] sz) (va_A ([([(x, .inr (4, [.ref (sa 0), .ref (ja 0), .ref (ta 0), .ref h, .ref q]))] : va_W)] : List va_W).flatten sz)) 1 6 (va_A ([([(x, .inr (4, [.ref (sa 0), .ref (ja 0), .ref (ta 0), .ref h, .ref q]))] : va_W)] : List va_W).flatten sz) := by
  refine wl_ofH (cc := cL_call) (maxL := 5) (ret := (some .int)) (by decide) rfl (Nat.le_of_ble_eq_true rfl) ?_
  intro p e s m below meth c ls A hx hb hr hts hown hlocks hml htab hsz hAe hP hK hD hX hA hS hl
  rw [hAe] at hX
  have hl : lv_has ls 5 [(0, .ref x), (1, .int (nI 0)), (2, .int (nI i)), (3, .int y)] := hl
  refine lv_iload_n hx hb dL_call_0 rfl (lv_at hl 1 rfl) ?_
  refine wl_if_ne (tgt := 13) hx hb 0 dL_call_1 (by decide) (by omega) (fun c1 => absurd c1 (by decide)) (fun c1 => ?_)
  refine lv_aload_n hx hb dL_call_4 rfl (lv_at hl 0 rfl) ?_
  refine lv_iload_n hx hb dL_call_5 rfl (lv_at hl 2 rfl) ?_
  refine lv_iload_n hx hb dL_call_6 rfl (lv_at hl 3 rfl) ?_
  refine wl_xcall (As := [.int (nI i), .int y]) (rest := []) (bsC := [([(x, .inr (4, [.ref (sa 0), .ref (ja 0), .ref (ta 0), .ref h, .ref q]))] : va_W)]) (bsR := []) ⟨hx, hb, hml, hown, hts⟩ (b_X4_mode2 l hl0 D cy x sa ja ta h q i y s.heap.size hi hx2) (cwV 2 hts gL_call_X4_mode rfl rfl rfl (by decide +kernel) ⟨Nat.le_of_ble_eq_true rfl, Nat.le_of_ble_eq_true rfl⟩) hX.1 hK hP hD hS hA rfl rfl rfl rfl rfl hl.1 rfl (Nat.le_of_ble_eq_true rfl) dL_call_7 ⟨Nat.le_of_ble_eq_true rfl, Nat.le_of_ble_eq_true rfl⟩ (fun ce q9 H locs hP hD hS hce hcv hcl9 => ?_)
  refine vx_catch (name := "java/lang/IllegalArgumentException") hown [⟨0, 125, 126, 44⟩] ⟨0, 125, 131, 46⟩ [⟨0, 125, 136, 48⟩] (by rw [htab]; rfl) (fun z hz => by rw [List.mem_singleton.mp hz]; exact Or.inr ⟨by decide, _, hts (.classLink RL 44 "java/lang/IndexOutOfBoundsException") (by decide +kernel), hX.2.1⟩) (by decide) (by decide) (hts (.classLink RL 46 "java/lang/IllegalArgumentException") (by decide +kernel)) (va_Nw.use rfl (hX.1.2.1 (.castable "java/lang/IllegalArgumentException" "java/lang/IllegalArgumentException") (by decide +kernel))) hce hcv hcl9 ?_
  refine W.widen (k := 1) (n := 6) (Nat.le_refl _) (Nat.le_refl _) ?_
  refine lv_astore (lv' := [(4, .ref q9), (0, .ref x), (1, .int (nI 0)), (2, .int (nI i)), (3, .int y)]) hx hb dL_call_131 hl (by decide) rfl (fun ls hl => ?_)
  refine lv_bipush (v := (-11)) hx hb dL_call_133 (by decide) ?_
  exact wl_Ri (bs := [([(x, .inr (4, [.ref (sa 0), .ref (ja 0), .ref (ta 0), .ref h, .ref q]))] : va_W)]) (r := (-11)) hx hb hr hlocks hAe hP hD hS (by exact ⟨rfl, rfl⟩) dL_call_135
set_option maxHeartbeats 4000000 in
set_option maxRecDepth 100000 in
theorem b_c_loss2 (l : Launch) (hl0 : l.stackTraces = false) (D : va_G) (cy : Nat → ClassId) (x : Nat) (sa ja ta : Nat → Nat) (h q : Nat) (i : Nat) (y : Int32) (sz : Nat) (hi : i < 8) (hx2 : ¬ (¬ y < 0 ∧ ¬ 6 < y)) : Met l yL_call wsL_call ({ frames := 7, cells := 1, slots := 6, locals := 113 } : Room) (wl_ic D cy (wl_T9 (va_A ([([(x, .inr (4, [.ref (sa 0), .ref (ja 0), .ref (ta 0), .ref h, .ref q]))] : va_W)] : List va_W).flatten sz)) [([(x, .inr (4, [.ref (sa 0), .ref (ja 0), .ref (ta 0), .ref h, .ref q]))] : va_W)] sz [.ref x, .int (nI 1), .int (nI i), .int y]) (va_Qi (fun (r : Int32) (bs : List va_W) => r = (-11) ∧ bs = [([(x, .inr (4, [.ref (sa 0), .ref (ja 0), .ref (ta 0), .ref h, .ref q]))] : va_W)]) (wl_ib D [([(x, .inr (4, [.ref (sa 0), .ref (ja 0), .ref (ta 0), .ref h, .ref q]))] : va_W)] sz) (va_A ([([(x, .inr (4, [.ref (sa 0), .ref (ja 0), .ref (ta 0), .ref h, .ref q]))] : va_W)] : List va_W).flatten sz)) 1 6 (va_A ([([(x, .inr (4, [.ref (sa 0), .ref (ja 0), .ref (ta 0), .ref h, .ref q]))] : va_W)] : List va_W).flatten sz) := by
  refine wl_ofH (cc := cL_call) (maxL := 5) (ret := (some .int)) (by decide) rfl (Nat.le_of_ble_eq_true rfl) ?_
  intro p e s m below meth c ls A hx hb hr hts hown hlocks hml htab hsz hAe hP hK hD hX hA hS hl
  rw [hAe] at hX
  have hl : lv_has ls 5 [(0, .ref x), (1, .int (nI 1)), (2, .int (nI i)), (3, .int y)] := hl
  refine lv_iload_n hx hb dL_call_0 rfl (lv_at hl 1 rfl) ?_
  refine wl_if_ne (tgt := 13) hx hb 1 dL_call_1 (by decide) (by omega) (fun c1 => ?_) (fun c1 => absurd c1 (by decide))
  refine lv_iload_n hx hb dL_call_13 rfl (lv_at hl 1 rfl) ?_
  refine lv_iconst (v := 1) hx hb dL_call_14 (by decide) ?_
  refine wl_icmp_ne (tgt := 27) hx hb 1 1 dL_call_15 (by decide) (by omega) (by omega) (fun c2 => absurd c2 (by decide)) (fun c2 => ?_)
  refine lv_aload_n hx hb dL_call_18 rfl (lv_at hl 0 rfl) ?_
  refine lv_iload_n hx hb dL_call_19 rfl (lv_at hl 2 rfl) ?_
  refine lv_iload_n hx hb dL_call_20 rfl (lv_at hl 3 rfl) ?_
  refine wl_xcall (As := [.int (nI i), .int y]) (rest := []) (bsC := [([(x, .inr (4, [.ref (sa 0), .ref (ja 0), .ref (ta 0), .ref h, .ref q]))] : va_W)]) (bsR := []) ⟨hx, hb, hml, hown, hts⟩ (b_X4_loss2 l hl0 D cy x sa ja ta h q i y s.heap.size hi hx2) (cwV 2 hts gL_call_X4_loss rfl rfl rfl (by decide +kernel) ⟨Nat.le_of_ble_eq_true rfl, Nat.le_of_ble_eq_true rfl⟩) hX.1 hK hP hD hS hA rfl rfl rfl rfl rfl hl.1 rfl (Nat.le_of_ble_eq_true rfl) dL_call_21 ⟨Nat.le_of_ble_eq_true rfl, Nat.le_of_ble_eq_true rfl⟩ (fun ce q9 H locs hP hD hS hce hcv hcl9 => ?_)
  refine vx_catch (name := "java/lang/IllegalArgumentException") hown [⟨0, 125, 126, 44⟩] ⟨0, 125, 131, 46⟩ [⟨0, 125, 136, 48⟩] (by rw [htab]; rfl) (fun z hz => by rw [List.mem_singleton.mp hz]; exact Or.inr ⟨by decide, _, hts (.classLink RL 44 "java/lang/IndexOutOfBoundsException") (by decide +kernel), hX.2.1⟩) (by decide) (by decide) (hts (.classLink RL 46 "java/lang/IllegalArgumentException") (by decide +kernel)) (va_Nw.use rfl (hX.1.2.1 (.castable "java/lang/IllegalArgumentException" "java/lang/IllegalArgumentException") (by decide +kernel))) hce hcv hcl9 ?_
  refine W.widen (k := 1) (n := 6) (Nat.le_refl _) (Nat.le_refl _) ?_
  refine lv_astore (lv' := [(4, .ref q9), (0, .ref x), (1, .int (nI 1)), (2, .int (nI i)), (3, .int y)]) hx hb dL_call_131 hl (by decide) rfl (fun ls hl => ?_)
  refine lv_bipush (v := (-11)) hx hb dL_call_133 (by decide) ?_
  exact wl_Ri (bs := [([(x, .inr (4, [.ref (sa 0), .ref (ja 0), .ref (ta 0), .ref h, .ref q]))] : va_W)]) (r := (-11)) hx hb hr hlocks hAe hP hD hS (by exact ⟨rfl, rfl⟩) dL_call_135
set_option maxHeartbeats 4000000 in
set_option maxRecDepth 100000 in
theorem b_c_pulse1 (l : Launch) (hl0 : l.stackTraces = false) (D : va_G) (cy : Nat → ClassId) (x : Nat) (sa ja ta : Nat → Nat) (h q : Nat) (y : Int32) (yb0 : Int32) (sz : Nat) (hx2 : ¬ (¬ y < 1 ∧ ¬ 20 < y)) : Met l yL_call wsL_call ({ frames := 7, cells := 1, slots := 6, locals := 111 } : Room) (wl_ic D cy (wl_T9 (va_A ([([(x, .inr (4, [.ref (sa 0), .ref (ja 0), .ref (ta 0), .ref h, .ref q]))] : va_W)] : List va_W).flatten sz)) [([(x, .inr (4, [.ref (sa 0), .ref (ja 0), .ref (ta 0), .ref h, .ref q]))] : va_W)] sz [.ref x, .int (nI 3), .int y, .int yb0]) (va_Qi (fun (r : Int32) (bs : List va_W) => r = (-11) ∧ bs = [([(x, .inr (4, [.ref (sa 0), .ref (ja 0), .ref (ta 0), .ref h, .ref q]))] : va_W)]) (wl_ib D [([(x, .inr (4, [.ref (sa 0), .ref (ja 0), .ref (ta 0), .ref h, .ref q]))] : va_W)] sz) (va_A ([([(x, .inr (4, [.ref (sa 0), .ref (ja 0), .ref (ta 0), .ref h, .ref q]))] : va_W)] : List va_W).flatten sz)) 1 6 (va_A ([([(x, .inr (4, [.ref (sa 0), .ref (ja 0), .ref (ta 0), .ref h, .ref q]))] : va_W)] : List va_W).flatten sz) := by
  refine wl_ofH (cc := cL_call) (maxL := 5) (ret := (some .int)) (by decide) rfl (Nat.le_of_ble_eq_true rfl) ?_
  intro p e s m below meth c ls A hx hb hr hts hown hlocks hml htab hsz hAe hP hK hD hX hA hS hl
  rw [hAe] at hX
  have hl : lv_has ls 5 [(0, .ref x), (1, .int (nI 3)), (2, .int y), (3, .int yb0)] := hl
  refine lv_iload_n hx hb dL_call_0 rfl (lv_at hl 1 rfl) ?_
  refine wl_if_ne (tgt := 13) hx hb 3 dL_call_1 (by decide) (by omega) (fun c1 => ?_) (fun c1 => absurd c1 (by decide))
  refine lv_iload_n hx hb dL_call_13 rfl (lv_at hl 1 rfl) ?_
  refine lv_iconst (v := 1) hx hb dL_call_14 (by decide) ?_
  refine wl_icmp_ne (tgt := 27) hx hb 3 1 dL_call_15 (by decide) (by omega) (by omega) (fun c2 => ?_) (fun c2 => absurd c2 (by decide))
  refine lv_iload_n hx hb dL_call_27 rfl (lv_at hl 1 rfl) ?_
  refine lv_iconst (v := 2) hx hb dL_call_28 (by decide) ?_
  refine wl_icmp_ne (tgt := 41) hx hb 3 2 dL_call_29 (by decide) (by omega) (by omega) (fun c3 => ?_) (fun c3 => absurd c3 (by decide))
  refine lv_iload_n hx hb dL_call_41 rfl (lv_at hl 1 rfl) ?_
  refine lv_iconst (v := 3) hx hb dL_call_42 (by decide) ?_
  refine wl_icmp_ne (tgt := 54) hx hb 3 3 dL_call_43 (by decide) (by omega) (by omega) (fun c4 => absurd c4 (by decide)) (fun c4 => ?_)
  refine lv_aload_n hx hb dL_call_46 rfl (lv_at hl 0 rfl) ?_
  refine lv_iload_n hx hb dL_call_47 rfl (lv_at hl 2 rfl) ?_
  refine wl_xcall (As := [.int y]) (rest := []) (bsC := [([(x, .inr (4, [.ref (sa 0), .ref (ja 0), .ref (ta 0), .ref h, .ref q]))] : va_W)]) (bsR := []) ⟨hx, hb, hml, hown, hts⟩ (b_X4_pulse1 l hl0 D cy x sa ja ta h q y s.heap.size hx2) (cwV 1 hts gL_call_X4_pulse rfl rfl rfl (by decide +kernel) ⟨Nat.le_of_ble_eq_true rfl, Nat.le_of_ble_eq_true rfl⟩) hX.1 hK hP hD hS hA rfl rfl rfl rfl rfl hl.1 rfl (Nat.le_of_ble_eq_true rfl) dL_call_48 ⟨Nat.le_of_ble_eq_true rfl, Nat.le_of_ble_eq_true rfl⟩ (fun ce q9 H locs hP hD hS hce hcv hcl9 => ?_)
  refine vx_catch (name := "java/lang/IllegalArgumentException") hown [⟨0, 125, 126, 44⟩] ⟨0, 125, 131, 46⟩ [⟨0, 125, 136, 48⟩] (by rw [htab]; rfl) (fun z hz => by rw [List.mem_singleton.mp hz]; exact Or.inr ⟨by decide, _, hts (.classLink RL 44 "java/lang/IndexOutOfBoundsException") (by decide +kernel), hX.2.1⟩) (by decide) (by decide) (hts (.classLink RL 46 "java/lang/IllegalArgumentException") (by decide +kernel)) (va_Nw.use rfl (hX.1.2.1 (.castable "java/lang/IllegalArgumentException" "java/lang/IllegalArgumentException") (by decide +kernel))) hce hcv hcl9 ?_
  refine W.widen (k := 1) (n := 6) (Nat.le_refl _) (Nat.le_refl _) ?_
  refine lv_astore (lv' := [(4, .ref q9), (0, .ref x), (1, .int (nI 3)), (2, .int y), (3, .int yb0)]) hx hb dL_call_131 hl (by decide) rfl (fun ls hl => ?_)
  refine lv_bipush (v := (-11)) hx hb dL_call_133 (by decide) ?_
  exact wl_Ri (bs := [([(x, .inr (4, [.ref (sa 0), .ref (ja 0), .ref (ta 0), .ref h, .ref q]))] : va_W)]) (r := (-11)) hx hb hr hlocks hAe hP hD hS (by exact ⟨rfl, rfl⟩) dL_call_135
set_option maxHeartbeats 4000000 in
set_option maxRecDepth 100000 in
theorem b_c_append1 (l : Launch) (hl0 : l.stackTraces = false) (D : va_G) (cy : Nat → ClassId) (x : Nat) (sa ja ta : Nat → Nat) (h q : Nat) (y : Int32) (yb0 : Int32) (sz : Nat) (hx2 : ¬ (¬ y < 33 ∧ ¬ 126 < y)) : Met l yL_call wsL_call ({ frames := 7, cells := 1, slots := 6, locals := 111 } : Room) (wl_ic D cy (wl_T9 (va_A ([([(x, .inr (4, [.ref (sa 0), .ref (ja 0), .ref (ta 0), .ref h, .ref q]))] : va_W)] : List va_W).flatten sz)) [([(x, .inr (4, [.ref (sa 0), .ref (ja 0), .ref (ta 0), .ref h, .ref q]))] : va_W)] sz [.ref x, .int (nI 5), .int y, .int yb0]) (va_Qi (fun (r : Int32) (bs : List va_W) => r = (-11) ∧ bs = [([(x, .inr (4, [.ref (sa 0), .ref (ja 0), .ref (ta 0), .ref h, .ref q]))] : va_W)]) (wl_ib D [([(x, .inr (4, [.ref (sa 0), .ref (ja 0), .ref (ta 0), .ref h, .ref q]))] : va_W)] sz) (va_A ([([(x, .inr (4, [.ref (sa 0), .ref (ja 0), .ref (ta 0), .ref h, .ref q]))] : va_W)] : List va_W).flatten sz)) 1 6 (va_A ([([(x, .inr (4, [.ref (sa 0), .ref (ja 0), .ref (ta 0), .ref h, .ref q]))] : va_W)] : List va_W).flatten sz) := by
  refine wl_ofH (cc := cL_call) (maxL := 5) (ret := (some .int)) (by decide) rfl (Nat.le_of_ble_eq_true rfl) ?_
  intro p e s m below meth c ls A hx hb hr hts hown hlocks hml htab hsz hAe hP hK hD hX hA hS hl
  rw [hAe] at hX
  have hl : lv_has ls 5 [(0, .ref x), (1, .int (nI 5)), (2, .int y), (3, .int yb0)] := hl
  refine lv_iload_n hx hb dL_call_0 rfl (lv_at hl 1 rfl) ?_
  refine wl_if_ne (tgt := 13) hx hb 5 dL_call_1 (by decide) (by omega) (fun c1 => ?_) (fun c1 => absurd c1 (by decide))
  refine lv_iload_n hx hb dL_call_13 rfl (lv_at hl 1 rfl) ?_
  refine lv_iconst (v := 1) hx hb dL_call_14 (by decide) ?_
  refine wl_icmp_ne (tgt := 27) hx hb 5 1 dL_call_15 (by decide) (by omega) (by omega) (fun c2 => ?_) (fun c2 => absurd c2 (by decide))
  refine lv_iload_n hx hb dL_call_27 rfl (lv_at hl 1 rfl) ?_
  refine lv_iconst (v := 2) hx hb dL_call_28 (by decide) ?_
  refine wl_icmp_ne (tgt := 41) hx hb 5 2 dL_call_29 (by decide) (by omega) (by omega) (fun c3 => ?_) (fun c3 => absurd c3 (by decide))
  refine lv_iload_n hx hb dL_call_41 rfl (lv_at hl 1 rfl) ?_
  refine lv_iconst (v := 3) hx hb dL_call_42 (by decide) ?_
  refine wl_icmp_ne (tgt := 54) hx hb 5 3 dL_call_43 (by decide) (by omega) (by omega) (fun c4 => ?_) (fun c4 => absurd c4 (by decide))
  refine lv_iload_n hx hb dL_call_54 rfl (lv_at hl 1 rfl) ?_
  refine lv_iconst (v := 4) hx hb dL_call_55 (by decide) ?_
  refine wl_icmp_ne (tgt := 67) hx hb 5 4 dL_call_56 (by decide) (by omega) (by omega) (fun c5 => ?_) (fun c5 => absurd c5 (by decide))
  refine lv_iload_n hx hb dL_call_67 rfl (lv_at hl 1 rfl) ?_
  refine lv_iconst (v := 5) hx hb dL_call_68 (by decide) ?_
  refine wl_icmp_ne (tgt := 80) hx hb 5 5 dL_call_69 (by decide) (by omega) (by omega) (fun c6 => absurd c6 (by decide)) (fun c6 => ?_)
  refine lv_aload_n hx hb dL_call_72 rfl (lv_at hl 0 rfl) ?_
  refine lv_iload_n hx hb dL_call_73 rfl (lv_at hl 2 rfl) ?_
  refine wl_xcall (As := [.int y]) (rest := []) (bsC := [([(x, .inr (4, [.ref (sa 0), .ref (ja 0), .ref (ta 0), .ref h, .ref q]))] : va_W)]) (bsR := []) ⟨hx, hb, hml, hown, hts⟩ (b_X4_append1 l hl0 D cy x sa ja ta h q y s.heap.size hx2) (cwV 1 hts gL_call_X4_append rfl rfl rfl (by decide +kernel) ⟨Nat.le_of_ble_eq_true rfl, Nat.le_of_ble_eq_true rfl⟩) hX.1 hK hP hD hS hA rfl rfl rfl rfl rfl hl.1 rfl (Nat.le_of_ble_eq_true rfl) dL_call_74 ⟨Nat.le_of_ble_eq_true rfl, Nat.le_of_ble_eq_true rfl⟩ (fun ce q9 H locs hP hD hS hce hcv hcl9 => ?_)
  refine vx_catch (name := "java/lang/IllegalArgumentException") hown [⟨0, 125, 126, 44⟩] ⟨0, 125, 131, 46⟩ [⟨0, 125, 136, 48⟩] (by rw [htab]; rfl) (fun z hz => by rw [List.mem_singleton.mp hz]; exact Or.inr ⟨by decide, _, hts (.classLink RL 44 "java/lang/IndexOutOfBoundsException") (by decide +kernel), hX.2.1⟩) (by decide) (by decide) (hts (.classLink RL 46 "java/lang/IllegalArgumentException") (by decide +kernel)) (va_Nw.use rfl (hX.1.2.1 (.castable "java/lang/IllegalArgumentException" "java/lang/IllegalArgumentException") (by decide +kernel))) hce hcv hcl9 ?_
  refine W.widen (k := 1) (n := 6) (Nat.le_refl _) (Nat.le_refl _) ?_
  refine lv_astore (lv' := [(4, .ref q9), (0, .ref x), (1, .int (nI 5)), (2, .int y), (3, .int yb0)]) hx hb dL_call_131 hl (by decide) rfl (fun ls hl => ?_)
  refine lv_bipush (v := (-11)) hx hb dL_call_133 (by decide) ?_
  exact wl_Ri (bs := [([(x, .inr (4, [.ref (sa 0), .ref (ja 0), .ref (ta 0), .ref h, .ref q]))] : va_W)]) (r := (-11)) hx hb hr hlocks hAe hP hD hS (by exact ⟨rfl, rfl⟩) dL_call_135
set_option maxHeartbeats 4000000 in
set_option maxRecDepth 100000 in
theorem b_c_load1 (l : Launch) (hl0 : l.stackTraces = false) (D : va_G) (cy : Nat → ClassId) (x : Nat) (sa ja ta : Nat → Nat) (h q : Nat) (t : Nat → Nat → Int32) (k : Nat) (yb0 yb1 : Int32) (sz : Nat) (hk : t 1 0 = nI k) (hk2 : k ≤ 60) (hc : ∀ y, y < k → vp_nar .char (t 0 y) = t 0 y) (hw0 : q_wt t k = 0) : Met l yL_call wsL_call ({ frames := 7, cells := 1, slots := 6, locals := 112 } : Room) (wl_ic D cy (wl_T9 (va_A ([([(x, .inr (4, [.ref (sa 0), .ref (ja 0), .ref (ta 0), .ref h, .ref q]))] : va_W), txW cy ta t] : List va_W).flatten sz)) [([(x, .inr (4, [.ref (sa 0), .ref (ja 0), .ref (ta 0), .ref h, .ref q]))] : va_W), txW cy ta t] sz [.ref x, .int (nI 6), .int yb0, .int yb1]) (va_Qi (fun (r : Int32) (bs : List va_W) => r = (-11) ∧ bs = [([(x, .inr (4, [.ref (sa 0), .ref (ja 0), .ref (ta 0), .ref h, .ref q]))] : va_W), txW cy ta t]) (wl_ib D [([(x, .inr (4, [.ref (sa 0), .ref (ja 0), .ref (ta 0), .ref h, .ref q]))] : va_W), txW cy ta t] sz) (va_A ([([(x, .inr (4, [.ref (sa 0), .ref (ja 0), .ref (ta 0), .ref h, .ref q]))] : va_W), txW cy ta t] : List va_W).flatten sz)) 1 6 (va_A ([([(x, .inr (4, [.ref (sa 0), .ref (ja 0), .ref (ta 0), .ref h, .ref q]))] : va_W), txW cy ta t] : List va_W).flatten sz) := by
  refine wl_ofH (cc := cL_call) (maxL := 5) (ret := (some .int)) (by decide) rfl (Nat.le_of_ble_eq_true rfl) ?_
  intro p e s m below meth c ls A hx hb hr hts hown hlocks hml htab hsz hAe hP hK hD hX hA hS hl
  rw [hAe] at hX
  have hl : lv_has ls 5 [(0, .ref x), (1, .int (nI 6)), (2, .int yb0), (3, .int yb1)] := hl
  refine lv_iload_n hx hb dL_call_0 rfl (lv_at hl 1 rfl) ?_
  refine wl_if_ne (tgt := 13) hx hb 6 dL_call_1 (by decide) (by omega) (fun c1 => ?_) (fun c1 => absurd c1 (by decide))
  refine lv_iload_n hx hb dL_call_13 rfl (lv_at hl 1 rfl) ?_
  refine lv_iconst (v := 1) hx hb dL_call_14 (by decide) ?_
  refine wl_icmp_ne (tgt := 27) hx hb 6 1 dL_call_15 (by decide) (by omega) (by omega) (fun c2 => ?_) (fun c2 => absurd c2 (by decide))
  refine lv_iload_n hx hb dL_call_27 rfl (lv_at hl 1 rfl) ?_
  refine lv_iconst (v := 2) hx hb dL_call_28 (by decide) ?_
  refine wl_icmp_ne (tgt := 41) hx hb 6 2 dL_call_29 (by decide) (by omega) (by omega) (fun c3 => ?_) (fun c3 => absurd c3 (by decide))
  refine lv_iload_n hx hb dL_call_41 rfl (lv_at hl 1 rfl) ?_
  refine lv_iconst (v := 3) hx hb dL_call_42 (by decide) ?_
  refine wl_icmp_ne (tgt := 54) hx hb 6 3 dL_call_43 (by decide) (by omega) (by omega) (fun c4 => ?_) (fun c4 => absurd c4 (by decide))
  refine lv_iload_n hx hb dL_call_54 rfl (lv_at hl 1 rfl) ?_
  refine lv_iconst (v := 4) hx hb dL_call_55 (by decide) ?_
  refine wl_icmp_ne (tgt := 67) hx hb 6 4 dL_call_56 (by decide) (by omega) (by omega) (fun c5 => ?_) (fun c5 => absurd c5 (by decide))
  refine lv_iload_n hx hb dL_call_67 rfl (lv_at hl 1 rfl) ?_
  refine lv_iconst (v := 5) hx hb dL_call_68 (by decide) ?_
  refine wl_icmp_ne (tgt := 80) hx hb 6 5 dL_call_69 (by decide) (by omega) (by omega) (fun c6 => ?_) (fun c6 => absurd c6 (by decide))
  refine lv_iload_n hx hb dL_call_80 rfl (lv_at hl 1 rfl) ?_
  refine lv_bipush (v := 6) hx hb dL_call_81 (by decide) ?_
  refine wl_icmp_ne (tgt := 93) hx hb 6 6 dL_call_83 (by decide) (by omega) (by omega) (fun c7 => absurd c7 (by decide)) (fun c7 => ?_)
  refine lv_aload_n hx hb dL_call_86 rfl (lv_at hl 0 rfl) ?_
  refine wl_xcall (As := []) (rest := []) (bsC := [([(x, .inr (4, [.ref (sa 0), .ref (ja 0), .ref (ta 0), .ref h, .ref q]))] : va_W), txW cy ta t]) (bsR := []) ⟨hx, hb, hml, hown, hts⟩ (b_X4_load1 l hl0 D cy x sa ja ta h q t k s.heap.size hk hk2 hc hw0) (cwV 0 hts gL_call_X4_load rfl rfl rfl (by decide +kernel) ⟨Nat.le_of_ble_eq_true rfl, Nat.le_of_ble_eq_true rfl⟩) hX.1 hK hP hD hS hA rfl rfl rfl rfl rfl hl.1 rfl (Nat.le_of_ble_eq_true rfl) dL_call_87 ⟨Nat.le_of_ble_eq_true rfl, Nat.le_of_ble_eq_true rfl⟩ (fun ce q9 H locs hP hD hS hce hcv hcl9 => ?_)
  refine vx_catch (name := "java/lang/IllegalArgumentException") hown [⟨0, 125, 126, 44⟩] ⟨0, 125, 131, 46⟩ [⟨0, 125, 136, 48⟩] (by rw [htab]; rfl) (fun z hz => by rw [List.mem_singleton.mp hz]; exact Or.inr ⟨by decide, _, hts (.classLink RL 44 "java/lang/IndexOutOfBoundsException") (by decide +kernel), hX.2.1⟩) (by decide) (by decide) (hts (.classLink RL 46 "java/lang/IllegalArgumentException") (by decide +kernel)) (va_Nw.use rfl (hX.1.2.1 (.castable "java/lang/IllegalArgumentException" "java/lang/IllegalArgumentException") (by decide +kernel))) hce hcv hcl9 ?_
  refine W.widen (k := 1) (n := 6) (Nat.le_refl _) (Nat.le_refl _) ?_
  refine lv_astore (lv' := [(4, .ref q9), (0, .ref x), (1, .int (nI 6)), (2, .int yb0), (3, .int yb1)]) hx hb dL_call_131 hl (by decide) rfl (fun ls hl => ?_)
  refine lv_bipush (v := (-11)) hx hb dL_call_133 (by decide) ?_
  exact wl_Ri (bs := [([(x, .inr (4, [.ref (sa 0), .ref (ja 0), .ref (ta 0), .ref h, .ref q]))] : va_W), txW cy ta t]) (r := (-11)) hx hb hr hlocks hAe hP hD hS (by exact ⟨rfl, rfl⟩) dL_call_135
set_option maxHeartbeats 4000000 in
set_option maxRecDepth 100000 in
theorem b_c_goBack2 (l : Launch) (hl0 : l.stackTraces = false) (D : va_G) (cy : Nat → ClassId) (x : Nat) (sa ja ta : Nat → Nat) (h q : Nat) (f : Nat → Option Nat) (i : Nat) (yb0 : Int32) (sz : Nat) (hi : i < 2) (hf : f i = none) : Met l yL_call wsL_call ({ frames := 7, cells := 1, slots := 6, locals := 112 } : Room) (wl_ic D cy (wl_T9 (va_A ([([(x, .inr (4, [.ref (sa 0), .ref (ja 0), .ref (ta 0), .ref h, .ref q]))] : va_W), ([(q, .inl (cy 3, 2, (.inr (.inr (.inr (.inr f))))))] : va_W)] : List va_W).flatten sz)) [([(x, .inr (4, [.ref (sa 0), .ref (ja 0), .ref (ta 0), .ref h, .ref q]))] : va_W), ([(q, .inl (cy 3, 2, (.inr (.inr (.inr (.inr f))))))] : va_W)] sz [.ref x, .int (nI 8), .int (nI i), .int yb0]) (va_Qi (fun (r : Int32) (bs : List va_W) => r = (-12) ∧ bs = [([(x, .inr (4, [.ref (sa 0), .ref (ja 0), .ref (ta 0), .ref h, .ref q]))] : va_W), ([(q, .inl (cy 3, 2, (.inr (.inr (.inr (.inr f))))))] : va_W)]) (wl_ib D [([(x, .inr (4, [.ref (sa 0), .ref (ja 0), .ref (ta 0), .ref h, .ref q]))] : va_W), ([(q, .inl (cy 3, 2, (.inr (.inr (.inr (.inr f))))))] : va_W)] sz) (va_A ([([(x, .inr (4, [.ref (sa 0), .ref (ja 0), .ref (ta 0), .ref h, .ref q]))] : va_W), ([(q, .inl (cy 3, 2, (.inr (.inr (.inr (.inr f))))))] : va_W)] : List va_W).flatten sz)) 1 6 (va_A ([([(x, .inr (4, [.ref (sa 0), .ref (ja 0), .ref (ta 0), .ref h, .ref q]))] : va_W), ([(q, .inl (cy 3, 2, (.inr (.inr (.inr (.inr f))))))] : va_W)] : List va_W).flatten sz) := by
  refine wl_ofH (cc := cL_call) (maxL := 5) (ret := (some .int)) (by decide) rfl (Nat.le_of_ble_eq_true rfl) ?_
  intro p e s m below meth c ls A hx hb hr hts hown hlocks hml htab hsz hAe hP hK hD hX hA hS hl
  rw [hAe] at hX
  have hl : lv_has ls 5 [(0, .ref x), (1, .int (nI 8)), (2, .int (nI i)), (3, .int yb0)] := hl
  refine lv_iload_n hx hb dL_call_0 rfl (lv_at hl 1 rfl) ?_
  refine wl_if_ne (tgt := 13) hx hb 8 dL_call_1 (by decide) (by omega) (fun c1 => ?_) (fun c1 => absurd c1 (by decide))
  refine lv_iload_n hx hb dL_call_13 rfl (lv_at hl 1 rfl) ?_
  refine lv_iconst (v := 1) hx hb dL_call_14 (by decide) ?_
  refine wl_icmp_ne (tgt := 27) hx hb 8 1 dL_call_15 (by decide) (by omega) (by omega) (fun c2 => ?_) (fun c2 => absurd c2 (by decide))
  refine lv_iload_n hx hb dL_call_27 rfl (lv_at hl 1 rfl) ?_
  refine lv_iconst (v := 2) hx hb dL_call_28 (by decide) ?_
  refine wl_icmp_ne (tgt := 41) hx hb 8 2 dL_call_29 (by decide) (by omega) (by omega) (fun c3 => ?_) (fun c3 => absurd c3 (by decide))
  refine lv_iload_n hx hb dL_call_41 rfl (lv_at hl 1 rfl) ?_
  refine lv_iconst (v := 3) hx hb dL_call_42 (by decide) ?_
  refine wl_icmp_ne (tgt := 54) hx hb 8 3 dL_call_43 (by decide) (by omega) (by omega) (fun c4 => ?_) (fun c4 => absurd c4 (by decide))
  refine lv_iload_n hx hb dL_call_54 rfl (lv_at hl 1 rfl) ?_
  refine lv_iconst (v := 4) hx hb dL_call_55 (by decide) ?_
  refine wl_icmp_ne (tgt := 67) hx hb 8 4 dL_call_56 (by decide) (by omega) (by omega) (fun c5 => ?_) (fun c5 => absurd c5 (by decide))
  refine lv_iload_n hx hb dL_call_67 rfl (lv_at hl 1 rfl) ?_
  refine lv_iconst (v := 5) hx hb dL_call_68 (by decide) ?_
  refine wl_icmp_ne (tgt := 80) hx hb 8 5 dL_call_69 (by decide) (by omega) (by omega) (fun c6 => ?_) (fun c6 => absurd c6 (by decide))
  refine lv_iload_n hx hb dL_call_80 rfl (lv_at hl 1 rfl) ?_
  refine lv_bipush (v := 6) hx hb dL_call_81 (by decide) ?_
  refine wl_icmp_ne (tgt := 93) hx hb 8 6 dL_call_83 (by decide) (by omega) (by omega) (fun c7 => ?_) (fun c7 => absurd c7 (by decide))
  refine lv_iload_n hx hb dL_call_93 rfl (lv_at hl 1 rfl) ?_
  refine lv_bipush (v := 7) hx hb dL_call_94 (by decide) ?_
  refine wl_icmp_ne (tgt := 107) hx hb 8 7 dL_call_96 (by decide) (by omega) (by omega) (fun c8 => ?_) (fun c8 => absurd c8 (by decide))
  refine lv_iload_n hx hb dL_call_107 rfl (lv_at hl 1 rfl) ?_
  refine lv_bipush (v := 8) hx hb dL_call_108 (by decide) ?_
  refine wl_icmp_ne (tgt := 121) hx hb 8 8 dL_call_110 (by decide) (by omega) (by omega) (fun c9 => absurd c9 (by decide)) (fun c9 => ?_)
  refine lv_aload_n hx hb dL_call_113 rfl (lv_at hl 0 rfl) ?_
  refine lv_iload_n hx hb dL_call_114 rfl (lv_at hl 2 rfl) ?_
  refine wl_xcall (As := [.int (nI i)]) (rest := []) (bsC := [([(x, .inr (4, [.ref (sa 0), .ref (ja 0), .ref (ta 0), .ref h, .ref q]))] : va_W), ([(q, .inl (cy 3, 2, (.inr (.inr (.inr (.inr f))))))] : va_W)]) (bsR := []) ⟨hx, hb, hml, hown, hts⟩ (b_X4_goBack2 l hl0 D cy x sa ja ta h q f i s.heap.size hi hf) (cwV 1 hts gL_call_X4_goBack rfl rfl rfl (by decide +kernel) ⟨Nat.le_of_ble_eq_true rfl, Nat.le_of_ble_eq_true rfl⟩) hX.1 hK hP hD hS hA rfl rfl rfl rfl rfl hl.1 rfl (Nat.le_of_ble_eq_true rfl) dL_call_115 ⟨Nat.le_of_ble_eq_true rfl, Nat.le_of_ble_eq_true rfl⟩ (fun ce q9 H locs hP hD hS hce hcv hcl9 => ?_)
  refine vx_catch (name := "java/lang/IllegalStateException") hown [⟨0, 125, 126, 44⟩, ⟨0, 125, 131, 46⟩] ⟨0, 125, 136, 48⟩ [] (by rw [htab]; rfl) (fun z hz => (List.mem_cons.mp hz).elim (fun hq => by rw [hq]; exact Or.inr ⟨by decide, _, hts (.classLink RL 44 "java/lang/IndexOutOfBoundsException") (by decide +kernel), hX.2.2.2⟩) (fun hq => by rw [List.mem_singleton.mp hq]; exact Or.inr ⟨by decide, _, hts (.classLink RL 46 "java/lang/IllegalArgumentException") (by decide +kernel), hX.2.2.1⟩)) (by decide) (by decide) (hts (.classLink RL 48 "java/lang/IllegalStateException") (by decide +kernel)) (va_Nw.use rfl (hX.1.2.1 (.castable "java/lang/IllegalStateException" "java/lang/IllegalStateException") (by decide +kernel))) hce hcv hcl9 ?_
  refine W.widen (k := 1) (n := 6) (Nat.le_refl _) (Nat.le_refl _) ?_
  refine lv_astore (lv' := [(4, .ref q9), (0, .ref x), (1, .int (nI 8)), (2, .int (nI i)), (3, .int yb0)]) hx hb dL_call_136 hl (by decide) rfl (fun ls hl => ?_)
  refine lv_bipush (v := (-12)) hx hb dL_call_138 (by decide) ?_
  exact wl_Ri (bs := [([(x, .inr (4, [.ref (sa 0), .ref (ja 0), .ref (ta 0), .ref h, .ref q]))] : va_W), ([(q, .inl (cy 3, 2, (.inr (.inr (.inr (.inr f))))))] : va_W)]) (r := (-12)) hx hb hr hlocks hAe hP hD hS (by exact ⟨rfl, rfl⟩) dL_call_140
set_option maxHeartbeats 4000000 in
set_option maxRecDepth 100000 in
theorem b_c_undo1 (l : Launch) (hl0 : l.stackTraces = false) (D : va_G) (cy : Nat → ClassId) (x : Nat) (sa ja ta : Nat → Nat) (h q : Nat) (g : Nat) (f : Nat → Option Nat) (yb0 yb1 : Int32) (sz : Nat)  : Met l yL_call wsL_call ({ frames := 7, cells := 1, slots := 6, locals := 111 } : Room) (wl_ic D cy (wl_T9 (va_A ([([(x, .inr (4, [.ref (sa 0), .ref (ja 0), .ref (ta 0), .ref h, .ref q]))] : va_W), ([(h, .inr (0, [.ref g, .int (nI 0)]))] : va_W), ([(g, .inl (cy 3, 6, (.inr (.inr (.inr (.inr f))))))] : va_W)] : List va_W).flatten sz)) [([(x, .inr (4, [.ref (sa 0), .ref (ja 0), .ref (ta 0), .ref h, .ref q]))] : va_W), ([(h, .inr (0, [.ref g, .int (nI 0)]))] : va_W), ([(g, .inl (cy 3, 6, (.inr (.inr (.inr (.inr f))))))] : va_W)] sz [.ref x, .int (nI 9), .int yb0, .int yb1]) (va_Qi (fun (r : Int32) (bs : List va_W) => r = (-12) ∧ bs = [([(x, .inr (4, [.ref (sa 0), .ref (ja 0), .ref (ta 0), .ref h, .ref q]))] : va_W), ([(h, .inr (0, [.ref g, .int (nI 0)]))] : va_W), ([(g, .inl (cy 3, 6, (.inr (.inr (.inr (.inr f))))))] : va_W)]) (wl_ib D [([(x, .inr (4, [.ref (sa 0), .ref (ja 0), .ref (ta 0), .ref h, .ref q]))] : va_W), ([(h, .inr (0, [.ref g, .int (nI 0)]))] : va_W), ([(g, .inl (cy 3, 6, (.inr (.inr (.inr (.inr f))))))] : va_W)] sz) (va_A ([([(x, .inr (4, [.ref (sa 0), .ref (ja 0), .ref (ta 0), .ref h, .ref q]))] : va_W), ([(h, .inr (0, [.ref g, .int (nI 0)]))] : va_W), ([(g, .inl (cy 3, 6, (.inr (.inr (.inr (.inr f))))))] : va_W)] : List va_W).flatten sz)) 1 6 (va_A ([([(x, .inr (4, [.ref (sa 0), .ref (ja 0), .ref (ta 0), .ref h, .ref q]))] : va_W), ([(h, .inr (0, [.ref g, .int (nI 0)]))] : va_W), ([(g, .inl (cy 3, 6, (.inr (.inr (.inr (.inr f))))))] : va_W)] : List va_W).flatten sz) := by
  refine wl_ofH (cc := cL_call) (maxL := 5) (ret := (some .int)) (by decide) rfl (Nat.le_of_ble_eq_true rfl) ?_
  intro p e s m below meth c ls A hx hb hr hts hown hlocks hml htab hsz hAe hP hK hD hX hA hS hl
  rw [hAe] at hX
  have hl : lv_has ls 5 [(0, .ref x), (1, .int (nI 9)), (2, .int yb0), (3, .int yb1)] := hl
  refine lv_iload_n hx hb dL_call_0 rfl (lv_at hl 1 rfl) ?_
  refine wl_if_ne (tgt := 13) hx hb 9 dL_call_1 (by decide) (by omega) (fun c1 => ?_) (fun c1 => absurd c1 (by decide))
  refine lv_iload_n hx hb dL_call_13 rfl (lv_at hl 1 rfl) ?_
  refine lv_iconst (v := 1) hx hb dL_call_14 (by decide) ?_
  refine wl_icmp_ne (tgt := 27) hx hb 9 1 dL_call_15 (by decide) (by omega) (by omega) (fun c2 => ?_) (fun c2 => absurd c2 (by decide))
  refine lv_iload_n hx hb dL_call_27 rfl (lv_at hl 1 rfl) ?_
  refine lv_iconst (v := 2) hx hb dL_call_28 (by decide) ?_
  refine wl_icmp_ne (tgt := 41) hx hb 9 2 dL_call_29 (by decide) (by omega) (by omega) (fun c3 => ?_) (fun c3 => absurd c3 (by decide))
  refine lv_iload_n hx hb dL_call_41 rfl (lv_at hl 1 rfl) ?_
  refine lv_iconst (v := 3) hx hb dL_call_42 (by decide) ?_
  refine wl_icmp_ne (tgt := 54) hx hb 9 3 dL_call_43 (by decide) (by omega) (by omega) (fun c4 => ?_) (fun c4 => absurd c4 (by decide))
  refine lv_iload_n hx hb dL_call_54 rfl (lv_at hl 1 rfl) ?_
  refine lv_iconst (v := 4) hx hb dL_call_55 (by decide) ?_
  refine wl_icmp_ne (tgt := 67) hx hb 9 4 dL_call_56 (by decide) (by omega) (by omega) (fun c5 => ?_) (fun c5 => absurd c5 (by decide))
  refine lv_iload_n hx hb dL_call_67 rfl (lv_at hl 1 rfl) ?_
  refine lv_iconst (v := 5) hx hb dL_call_68 (by decide) ?_
  refine wl_icmp_ne (tgt := 80) hx hb 9 5 dL_call_69 (by decide) (by omega) (by omega) (fun c6 => ?_) (fun c6 => absurd c6 (by decide))
  refine lv_iload_n hx hb dL_call_80 rfl (lv_at hl 1 rfl) ?_
  refine lv_bipush (v := 6) hx hb dL_call_81 (by decide) ?_
  refine wl_icmp_ne (tgt := 93) hx hb 9 6 dL_call_83 (by decide) (by omega) (by omega) (fun c7 => ?_) (fun c7 => absurd c7 (by decide))
  refine lv_iload_n hx hb dL_call_93 rfl (lv_at hl 1 rfl) ?_
  refine lv_bipush (v := 7) hx hb dL_call_94 (by decide) ?_
  refine wl_icmp_ne (tgt := 107) hx hb 9 7 dL_call_96 (by decide) (by omega) (by omega) (fun c8 => ?_) (fun c8 => absurd c8 (by decide))
  refine lv_iload_n hx hb dL_call_107 rfl (lv_at hl 1 rfl) ?_
  refine lv_bipush (v := 8) hx hb dL_call_108 (by decide) ?_
  refine wl_icmp_ne (tgt := 121) hx hb 9 8 dL_call_110 (by decide) (by omega) (by omega) (fun c9 => ?_) (fun c9 => absurd c9 (by decide))
  refine lv_aload_n hx hb dL_call_121 rfl (lv_at hl 0 rfl) ?_
  refine wl_xcall (As := []) (rest := []) (bsC := [([(x, .inr (4, [.ref (sa 0), .ref (ja 0), .ref (ta 0), .ref h, .ref q]))] : va_W), ([(h, .inr (0, [.ref g, .int (nI 0)]))] : va_W), ([(g, .inl (cy 3, 6, (.inr (.inr (.inr (.inr f))))))] : va_W)]) (bsR := []) ⟨hx, hb, hml, hown, hts⟩ (b_X4_undo1 l hl0 D cy x sa ja ta h q g f s.heap.size ) (cwV 0 hts gL_call_X4_undo rfl rfl rfl (by decide +kernel) ⟨Nat.le_of_ble_eq_true rfl, Nat.le_of_ble_eq_true rfl⟩) hX.1 hK hP hD hS hA rfl rfl rfl rfl rfl hl.1 rfl (Nat.le_of_ble_eq_true rfl) dL_call_122 ⟨Nat.le_of_ble_eq_true rfl, Nat.le_of_ble_eq_true rfl⟩ (fun ce q9 H locs hP hD hS hce hcv hcl9 => ?_)
  refine vx_catch (name := "java/lang/IllegalStateException") hown [⟨0, 125, 126, 44⟩, ⟨0, 125, 131, 46⟩] ⟨0, 125, 136, 48⟩ [] (by rw [htab]; rfl) (fun z hz => (List.mem_cons.mp hz).elim (fun hq => by rw [hq]; exact Or.inr ⟨by decide, _, hts (.classLink RL 44 "java/lang/IndexOutOfBoundsException") (by decide +kernel), hX.2.2.2⟩) (fun hq => by rw [List.mem_singleton.mp hq]; exact Or.inr ⟨by decide, _, hts (.classLink RL 46 "java/lang/IllegalArgumentException") (by decide +kernel), hX.2.2.1⟩)) (by decide) (by decide) (hts (.classLink RL 48 "java/lang/IllegalStateException") (by decide +kernel)) (va_Nw.use rfl (hX.1.2.1 (.castable "java/lang/IllegalStateException" "java/lang/IllegalStateException") (by decide +kernel))) hce hcv hcl9 ?_
  refine W.widen (k := 1) (n := 6) (Nat.le_refl _) (Nat.le_refl _) ?_
  refine lv_astore (lv' := [(4, .ref q9), (0, .ref x), (1, .int (nI 9)), (2, .int yb0), (3, .int yb1)]) hx hb dL_call_136 hl (by decide) rfl (fun ls hl => ?_)
  refine lv_bipush (v := (-12)) hx hb dL_call_138 (by decide) ?_
  exact wl_Ri (bs := [([(x, .inr (4, [.ref (sa 0), .ref (ja 0), .ref (ta 0), .ref h, .ref q]))] : va_W), ([(h, .inr (0, [.ref g, .int (nI 0)]))] : va_W), ([(g, .inl (cy 3, 6, (.inr (.inr (.inr (.inr f))))))] : va_W)]) (r := (-12)) hx hb hr hlocks hAe hP hD hS (by exact ⟨rfl, rfl⟩) dL_call_140
set_option maxHeartbeats 4000000 in
set_option maxRecDepth 100000 in
theorem b_c_set2 (l : Launch) (hl0 : l.stackTraces = false) (D : va_G) (cy : Nat → ClassId) (x : Nat) (sa ja ta : Nat → Nat) (h q : Nat) (i : Nat) (y : Int32) (sz : Nat) (hi : i < 3) (hx2 : ¬ (¬ y < nI (q_lo3 i) ∧ ¬ nI (q_hi3 i) < y)) : Met l yL_call wsL_call ({ frames := 7, cells := 1, slots := 6, locals := 113 } : Room) (wl_ic D cy (wl_T9 (va_A ([([(x, .inr (4, [.ref (sa 0), .ref (ja 0), .ref (ta 0), .ref h, .ref q]))] : va_W)] : List va_W).flatten sz)) [([(x, .inr (4, [.ref (sa 0), .ref (ja 0), .ref (ta 0), .ref h, .ref q]))] : va_W)] sz [.ref x, .int (nI 2), .int (nI i), .int y]) (va_Qi (fun (r : Int32) (bs : List va_W) => r = (-11) ∧ bs = [([(x, .inr (4, [.ref (sa 0), .ref (ja 0), .ref (ta 0), .ref h, .ref q]))] : va_W)]) (wl_ib D [([(x, .inr (4, [.ref (sa 0), .ref (ja 0), .ref (ta 0), .ref h, .ref q]))] : va_W)] sz) (va_A ([([(x, .inr (4, [.ref (sa 0), .ref (ja 0), .ref (ta 0), .ref h, .ref q]))] : va_W)] : List va_W).flatten sz)) 1 6 (va_A ([([(x, .inr (4, [.ref (sa 0), .ref (ja 0), .ref (ta 0), .ref h, .ref q]))] : va_W)] : List va_W).flatten sz) := by
  refine wl_ofH (cc := cL_call) (maxL := 5) (ret := (some .int)) (by decide) rfl (Nat.le_of_ble_eq_true rfl) ?_
  intro p e s m below meth c ls A hx hb hr hts hown hlocks hml htab hsz hAe hP hK hD hX hA hS hl
  rw [hAe] at hX
  have hl : lv_has ls 5 [(0, .ref x), (1, .int (nI 2)), (2, .int (nI i)), (3, .int y)] := hl
  refine lv_iload_n hx hb dL_call_0 rfl (lv_at hl 1 rfl) ?_
  refine wl_if_ne (tgt := 13) hx hb 2 dL_call_1 (by decide) (by omega) (fun c1 => ?_) (fun c1 => absurd c1 (by decide))
  refine lv_iload_n hx hb dL_call_13 rfl (lv_at hl 1 rfl) ?_
  refine lv_iconst (v := 1) hx hb dL_call_14 (by decide) ?_
  refine wl_icmp_ne (tgt := 27) hx hb 2 1 dL_call_15 (by decide) (by omega) (by omega) (fun c2 => ?_) (fun c2 => absurd c2 (by decide))
  refine lv_iload_n hx hb dL_call_27 rfl (lv_at hl 1 rfl) ?_
  refine lv_iconst (v := 2) hx hb dL_call_28 (by decide) ?_
  refine wl_icmp_ne (tgt := 41) hx hb 2 2 dL_call_29 (by decide) (by omega) (by omega) (fun c3 => absurd c3 (by decide)) (fun c3 => ?_)
  refine lv_aload_n hx hb dL_call_32 rfl (lv_at hl 0 rfl) ?_
  refine lv_iload_n hx hb dL_call_33 rfl (lv_at hl 2 rfl) ?_
  refine lv_iload_n hx hb dL_call_34 rfl (lv_at hl 3 rfl) ?_
  refine wl_xcall (As := [.int (nI i), .int y]) (rest := []) (bsC := [([(x, .inr (4, [.ref (sa 0), .ref (ja 0), .ref (ta 0), .ref h, .ref q]))] : va_W)]) (bsR := []) ⟨hx, hb, hml, hown, hts⟩ (b_X4_set2 l hl0 D cy x sa ja ta h q i y s.heap.size hi hx2) (cwV 2 hts gL_call_X4_set rfl rfl rfl (by decide +kernel) ⟨Nat.le_of_ble_eq_true rfl, Nat.le_of_ble_eq_true rfl⟩) hX.1 hK hP hD hS hA rfl rfl rfl rfl rfl hl.1 rfl (Nat.le_of_ble_eq_true rfl) dL_call_35 ⟨Nat.le_of_ble_eq_true rfl, Nat.le_of_ble_eq_true rfl⟩ (fun ce q9 H locs hP hD hS hce hcv hcl9 => ?_)
  refine vx_catch (name := "java/lang/IllegalArgumentException") hown [⟨0, 125, 126, 44⟩] ⟨0, 125, 131, 46⟩ [⟨0, 125, 136, 48⟩] (by rw [htab]; rfl) (fun z hz => by rw [List.mem_singleton.mp hz]; exact Or.inr ⟨by decide, _, hts (.classLink RL 44 "java/lang/IndexOutOfBoundsException") (by decide +kernel), hX.2.1⟩) (by decide) (by decide) (hts (.classLink RL 46 "java/lang/IllegalArgumentException") (by decide +kernel)) (va_Nw.use rfl (hX.1.2.1 (.castable "java/lang/IllegalArgumentException" "java/lang/IllegalArgumentException") (by decide +kernel))) hce hcv hcl9 ?_
  refine W.widen (k := 1) (n := 6) (Nat.le_refl _) (Nat.le_refl _) ?_
  refine lv_astore (lv' := [(4, .ref q9), (0, .ref x), (1, .int (nI 2)), (2, .int (nI i)), (3, .int y)]) hx hb dL_call_131 hl (by decide) rfl (fun ls hl => ?_)
  refine lv_bipush (v := (-11)) hx hb dL_call_133 (by decide) ?_
  exact wl_Ri (bs := [([(x, .inr (4, [.ref (sa 0), .ref (ja 0), .ref (ta 0), .ref h, .ref q]))] : va_W)]) (r := (-11)) hx hb hr hlocks hAe hP hD hS (by exact ⟨rfl, rfl⟩) dL_call_135
