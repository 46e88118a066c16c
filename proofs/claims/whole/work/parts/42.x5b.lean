/-! WireLampsModel: copies, saved states -/
set_option maxHeartbeats 4000000 in
set_option maxRecDepth 100000 in
theorem m_X5_copyState_zS (l : Launch) (D : va_G) (cy : Nat → ClassId) (a : Nat → Nat) (u : Nat → Nat → Int32) (f : Nat) (sz : Nat) (hf : f ≤ 850) : Met l yX5_copyState wsX5_copyState ({ frames := 0, cells := 0, slots := 0, locals := 0 } : Room) (wl_ic D cy (fun _ => True) [moW cy a u] sz [.ref (a 1), .int (nI 0), .ref (a 2), .int (nI f)]) (va_Qv (fun (bs : List va_W) => bs = [moW cy a (sf u 1 (q_cp (u 0) (u 1) 0 f 170))]) (wl_ib D [moW cy a u] sz) (va_A ([moW cy a u] : List va_W).flatten sz)) 0 0 (va_A ([moW cy a u] : List va_W).flatten sz) := by
  refine wl_ofI (cc := cX5_copyState) (maxL := 5) (ret := none) (by decide) rfl (Nat.le_of_ble_eq_true rfl) ?_
  intro p e s m below meth c ls A hx hb hr hts hown hlocks hml hnm hsz hAe hP hK hD hX hA hS hl
  have hl : lv_has ls 5 [(0, .ref (a 1)), (1, .int (nI 0)), (2, .ref (a 2)), (3, .int (nI f))] := hl
  refine lv_iconst (v := 0) hx hb dX5_copyState_0 (by decide) ?_
  refine lv_istore (lv' := [(4, .int 0), (0, .ref (a 1)), (1, .int (nI 0)), (2, .ref (a 2)), (3, .int (nI f))]) hx hb dX5_copyState_1 hl (by decide) rfl (fun ls hl => ?_)
  suffices K1 : ∀ (n2 : Nat) (i : Nat) (Y : Nat → Nat → Int32), 170 - i < n2 → (i ≤ 170) → (Y = sf u 1 (q_cp (u 0) (u 1) 0 f i)) → ∀ (ls : Array Slot) (H : Heap) (locs : List Loc), va_P D vwCl ([moW cy a Y] : List va_W).flatten H → va_D A ([moW cy a Y] : List va_W).flatten → va_S A s.heap H locs → lv_has ls 5 [(4, .int (nI i)), (0, .ref (a 1)), (1, .int (nI 0)), (2, .ref (a 2)), (3, .int (nI f))] → W p l e ({ frames := 0, cells := 0, slots := 0, locals := 0 } : Room) s m ([.ref (a 1), .int (nI 0), .ref (a 2), .int (nI f)] : List Value).toArray below meth c H locs 0 0 (MQ below (va_Qv (fun (bs : List va_W) => bs = [moW cy a (sf u 1 (q_cp (u 0) (u 1) 0 f 170))]) (wl_ib D [moW cy a u] sz) (va_A ([moW cy a u] : List va_W).flatten sz)) ([.ref (a 1), .int (nI 0), .ref (a 2), .int (nI f)] : List Value).toArray s 0 0 (va_A ([moW cy a u] : List va_W).flatten sz)) (F0 m 3 ls []) from K1 171 0 u (by omega) (by omega) q_cp0 _ _ _ hP hD hS (lv_sub hl [0, 1, 2, 3, 4] rfl)
  intro n2
  induction n2 with
  | zero => intro i Y hm; exact absurd hm (Nat.not_lt_zero _)
  | succ n2 ih3 =>
    intro i Y hm hi hW ls H locs hP hD hS hl
    refine lv_iload hx hb dX5_copyState_3 (lv_at hl 0 rfl) ?_
    refine lv_sipush (v := 170) hx hb dX5_copyState_5 (by decide) ?_
    refine wl_icmp_ge (tgt := 29) hx hb i 170 dX5_copyState_8 (by decide) (by omega) (by omega) (fun c4 => ?_) (fun c4 => ?_)
    · exact wl_Rv (bs := [moW cy a Y]) hx hb hr hlocks hAe hP hD hS (by obtain rfl : i = 170 := (by omega); rw [hW]) dX5_copyState_29
    · refine lv_aload_n hx hb dX5_copyState_11 rfl (lv_at hl 3 rfl) ?_
      refine lv_iload_n hx hb dX5_copyState_12 rfl (lv_at hl 4 rfl) ?_
      refine lv_iload hx hb dX5_copyState_13 (lv_at hl 0 rfl) ?_
      refine lv_iadd hx hb dX5_copyState_15 ?_
      refine wl_top (y := nI (f + i)) (nI_add f i) ?_
      refine lv_aload_n hx hb dX5_copyState_16 rfl (lv_at hl 1 rfl) ?_
      refine lv_iload_n hx hb dX5_copyState_17 rfl (lv_at hl 2 rfl) ?_
      refine lv_iload hx hb dX5_copyState_18 (lv_at hl 0 rfl) ?_
      refine lv_iadd hx hb dX5_copyState_20 ?_
      refine wl_top (y := nI (0 + i)) (nI_add 0 i) ?_
      refine wl_iald hx hb hK hP 0 1 rfl rfl (0 + i) (by omega) (Nat.le_of_ble_eq_true rfl) dX5_copyState_21 ?_
      refine wl_iast hx hb hK hP hD hS 0 2 rfl rfl (f + i) (by omega) (Nat.le_of_ble_eq_true rfl) dX5_copyState_22 (fun H locs hP hD hS => ?_)
      have hP : va_P D vwCl ([moW cy a (su Y 1 (f + i) (Y 0 (0 + i)))] : List va_W).flatten H := hP
      have hD : va_D A ([moW cy a (su Y 1 (f + i) (Y 0 (0 + i)))] : List va_W).flatten := hD
      refine lv_iinc (v := nI (i + 1)) (lv' := [(4, .int (nI (i + 1))), (0, .ref (a 1)), (1, .int (nI 0)), (2, .ref (a 2)), (3, .int (nI f))]) hx hb dX5_copyState_23 hl (k := 0) rfl (wl_inc i) (by decide) rfl (fun ls hl => ?_)
      refine lv_goto (tgt := 3) hx hb dX5_copyState_26 (by decide) ?_
      exact ih3 (i + 1) (su Y 1 (f + i) (Y 0 (0 + i))) (by omega) (by omega) (by rw [hW]; exact q_cp1) _ _ _ hP hD hS (lv_sub hl [0, 1, 2, 3, 4] rfl)
set_option maxHeartbeats 4000000 in
set_option maxRecDepth 100000 in
theorem m_X5_copyState_Sz (l : Launch) (D : va_G) (cy : Nat → ClassId) (a : Nat → Nat) (u : Nat → Nat → Int32) (f : Nat) (sz : Nat) (hf : f ≤ 850) : Met l yX5_copyState wsX5_copyState ({ frames := 0, cells := 0, slots := 0, locals := 0 } : Room) (wl_ic D cy (fun _ => True) [moW cy a u] sz [.ref (a 2), .int (nI f), .ref (a 1), .int (nI 0)]) (va_Qv (fun (bs : List va_W) => bs = [moW cy a (sf u 0 (q_cp (u 1) (u 0) f 0 170))]) (wl_ib D [moW cy a u] sz) (va_A ([moW cy a u] : List va_W).flatten sz)) 0 0 (va_A ([moW cy a u] : List va_W).flatten sz) := by
  refine wl_ofI (cc := cX5_copyState) (maxL := 5) (ret := none) (by decide) rfl (Nat.le_of_ble_eq_true rfl) ?_
  intro p e s m below meth c ls A hx hb hr hts hown hlocks hml hnm hsz hAe hP hK hD hX hA hS hl
  have hl : lv_has ls 5 [(0, .ref (a 2)), (1, .int (nI f)), (2, .ref (a 1)), (3, .int (nI 0))] := hl
  refine lv_iconst (v := 0) hx hb dX5_copyState_0 (by decide) ?_
  refine lv_istore (lv' := [(4, .int 0), (0, .ref (a 2)), (1, .int (nI f)), (2, .ref (a 1)), (3, .int (nI 0))]) hx hb dX5_copyState_1 hl (by decide) rfl (fun ls hl => ?_)
  suffices K1 : ∀ (n2 : Nat) (i : Nat) (Y : Nat → Nat → Int32), 170 - i < n2 → (i ≤ 170) → (Y = sf u 0 (q_cp (u 1) (u 0) f 0 i)) → ∀ (ls : Array Slot) (H : Heap) (locs : List Loc), va_P D vwCl ([moW cy a Y] : List va_W).flatten H → va_D A ([moW cy a Y] : List va_W).flatten → va_S A s.heap H locs → lv_has ls 5 [(4, .int (nI i)), (0, .ref (a 2)), (1, .int (nI f)), (2, .ref (a 1)), (3, .int (nI 0))] → W p l e ({ frames := 0, cells := 0, slots := 0, locals := 0 } : Room) s m ([.ref (a 2), .int (nI f), .ref (a 1), .int (nI 0)] : List Value).toArray below meth c H locs 0 0 (MQ below (va_Qv (fun (bs : List va_W) => bs = [moW cy a (sf u 0 (q_cp (u 1) (u 0) f 0 170))]) (wl_ib D [moW cy a u] sz) (va_A ([moW cy a u] : List va_W).flatten sz)) ([.ref (a 2), .int (nI f), .ref (a 1), .int (nI 0)] : List Value).toArray s 0 0 (va_A ([moW cy a u] : List va_W).flatten sz)) (F0 m 3 ls []) from K1 171 0 u (by omega) (by omega) q_cp0 _ _ _ hP hD hS (lv_sub hl [0, 1, 2, 3, 4] rfl)
  intro n2
  induction n2 with
  | zero => intro i Y hm; exact absurd hm (Nat.not_lt_zero _)
  | succ n2 ih3 =>
    intro i Y hm hi hW ls H locs hP hD hS hl
    refine lv_iload hx hb dX5_copyState_3 (lv_at hl 0 rfl) ?_
    refine lv_sipush (v := 170) hx hb dX5_copyState_5 (by decide) ?_
    refine wl_icmp_ge (tgt := 29) hx hb i 170 dX5_copyState_8 (by decide) (by omega) (by omega) (fun c4 => ?_) (fun c4 => ?_)
    · exact wl_Rv (bs := [moW cy a Y]) hx hb hr hlocks hAe hP hD hS (by obtain rfl : i = 170 := (by omega); rw [hW]) dX5_copyState_29
    · refine lv_aload_n hx hb dX5_copyState_11 rfl (lv_at hl 3 rfl) ?_
      refine lv_iload_n hx hb dX5_copyState_12 rfl (lv_at hl 4 rfl) ?_
      refine lv_iload hx hb dX5_copyState_13 (lv_at hl 0 rfl) ?_
      refine lv_iadd hx hb dX5_copyState_15 ?_
      refine wl_top (y := nI (0 + i)) (nI_add 0 i) ?_
      refine lv_aload_n hx hb dX5_copyState_16 rfl (lv_at hl 1 rfl) ?_
      refine lv_iload_n hx hb dX5_copyState_17 rfl (lv_at hl 2 rfl) ?_
      refine lv_iload hx hb dX5_copyState_18 (lv_at hl 0 rfl) ?_
      refine lv_iadd hx hb dX5_copyState_20 ?_
      refine wl_top (y := nI (f + i)) (nI_add f i) ?_
      refine wl_iald hx hb hK hP 0 2 rfl rfl (f + i) (by omega) (Nat.le_of_ble_eq_true rfl) dX5_copyState_21 ?_
      refine wl_iast hx hb hK hP hD hS 0 1 rfl rfl (0 + i) (by omega) (Nat.le_of_ble_eq_true rfl) dX5_copyState_22 (fun H locs hP hD hS => ?_)
      have hP : va_P D vwCl ([moW cy a (su Y 0 (0 + i) (Y 1 (f + i)))] : List va_W).flatten H := hP
      have hD : va_D A ([moW cy a (su Y 0 (0 + i) (Y 1 (f + i)))] : List va_W).flatten := hD
      refine lv_iinc (v := nI (i + 1)) (lv' := [(4, .int (nI (i + 1))), (0, .ref (a 2)), (1, .int (nI f)), (2, .ref (a 1)), (3, .int (nI 0))]) hx hb dX5_copyState_23 hl (k := 0) rfl (wl_inc i) (by decide) rfl (fun ls hl => ?_)
      refine lv_goto (tgt := 3) hx hb dX5_copyState_26 (by decide) ?_
      exact ih3 (i + 1) (su Y 0 (0 + i) (Y 1 (f + i))) (by omega) (by omega) (by rw [hW]; exact q_cp1) _ _ _ hP hD hS (lv_sub hl [0, 1, 2, 3, 4] rfl)
set_option maxHeartbeats 4000000 in
set_option maxRecDepth 100000 in
theorem m_X5_copyState_zK (l : Launch) (D : va_G) (cy : Nat → ClassId) (a : Nat → Nat) (u : Nat → Nat → Int32) (f : Nat) (sz : Nat) (hf : f ≤ 170) : Met l yX5_copyState wsX5_copyState ({ frames := 0, cells := 0, slots := 0, locals := 0 } : Room) (wl_ic D cy (fun _ => True) [moW cy a u] sz [.ref (a 1), .int (nI 0), .ref (a 3), .int (nI f)]) (va_Qv (fun (bs : List va_W) => bs = [moW cy a (sf u 2 (q_cp (u 0) (u 2) 0 f 170))]) (wl_ib D [moW cy a u] sz) (va_A ([moW cy a u] : List va_W).flatten sz)) 0 0 (va_A ([moW cy a u] : List va_W).flatten sz) := by
  refine wl_ofI (cc := cX5_copyState) (maxL := 5) (ret := none) (by decide) rfl (Nat.le_of_ble_eq_true rfl) ?_
  intro p e s m below meth c ls A hx hb hr hts hown hlocks hml hnm hsz hAe hP hK hD hX hA hS hl
  have hl : lv_has ls 5 [(0, .ref (a 1)), (1, .int (nI 0)), (2, .ref (a 3)), (3, .int (nI f))] := hl
  refine lv_iconst (v := 0) hx hb dX5_copyState_0 (by decide) ?_
  refine lv_istore (lv' := [(4, .int 0), (0, .ref (a 1)), (1, .int (nI 0)), (2, .ref (a 3)), (3, .int (nI f))]) hx hb dX5_copyState_1 hl (by decide) rfl (fun ls hl => ?_)
  suffices K1 : ∀ (n2 : Nat) (i : Nat) (Y : Nat → Nat → Int32), 170 - i < n2 → (i ≤ 170) → (Y = sf u 2 (q_cp (u 0) (u 2) 0 f i)) → ∀ (ls : Array Slot) (H : Heap) (locs : List Loc), va_P D vwCl ([moW cy a Y] : List va_W).flatten H → va_D A ([moW cy a Y] : List va_W).flatten → va_S A s.heap H locs → lv_has ls 5 [(4, .int (nI i)), (0, .ref (a 1)), (1, .int (nI 0)), (2, .ref (a 3)), (3, .int (nI f))] → W p l e ({ frames := 0, cells := 0, slots := 0, locals := 0 } : Room) s m ([.ref (a 1), .int (nI 0), .ref (a 3), .int (nI f)] : List Value).toArray below meth c H locs 0 0 (MQ below (va_Qv (fun (bs : List va_W) => bs = [moW cy a (sf u 2 (q_cp (u 0) (u 2) 0 f 170))]) (wl_ib D [moW cy a u] sz) (va_A ([moW cy a u] : List va_W).flatten sz)) ([.ref (a 1), .int (nI 0), .ref (a 3), .int (nI f)] : List Value).toArray s 0 0 (va_A ([moW cy a u] : List va_W).flatten sz)) (F0 m 3 ls []) from K1 171 0 u (by omega) (by omega) q_cp0 _ _ _ hP hD hS (lv_sub hl [0, 1, 2, 3, 4] rfl)
  intro n2
  induction n2 with
  | zero => intro i Y hm; exact absurd hm (Nat.not_lt_zero _)
  | succ n2 ih3 =>
    intro i Y hm hi hW ls H locs hP hD hS hl
    refine lv_iload hx hb dX5_copyState_3 (lv_at hl 0 rfl) ?_
    refine lv_sipush (v := 170) hx hb dX5_copyState_5 (by decide) ?_
    refine wl_icmp_ge (tgt := 29) hx hb i 170 dX5_copyState_8 (by decide) (by omega) (by omega) (fun c4 => ?_) (fun c4 => ?_)
    · exact wl_Rv (bs := [moW cy a Y]) hx hb hr hlocks hAe hP hD hS (by obtain rfl : i = 170 := (by omega); rw [hW]) dX5_copyState_29
    · refine lv_aload_n hx hb dX5_copyState_11 rfl (lv_at hl 3 rfl) ?_
      refine lv_iload_n hx hb dX5_copyState_12 rfl (lv_at hl 4 rfl) ?_
      refine lv_iload hx hb dX5_copyState_13 (lv_at hl 0 rfl) ?_
      refine lv_iadd hx hb dX5_copyState_15 ?_
      refine wl_top (y := nI (f + i)) (nI_add f i) ?_
      refine lv_aload_n hx hb dX5_copyState_16 rfl (lv_at hl 1 rfl) ?_
      refine lv_iload_n hx hb dX5_copyState_17 rfl (lv_at hl 2 rfl) ?_
      refine lv_iload hx hb dX5_copyState_18 (lv_at hl 0 rfl) ?_
      refine lv_iadd hx hb dX5_copyState_20 ?_
      refine wl_top (y := nI (0 + i)) (nI_add 0 i) ?_
      refine wl_iald hx hb hK hP 0 1 rfl rfl (0 + i) (by omega) (Nat.le_of_ble_eq_true rfl) dX5_copyState_21 ?_
      refine wl_iast hx hb hK hP hD hS 0 3 rfl rfl (f + i) (by omega) (Nat.le_of_ble_eq_true rfl) dX5_copyState_22 (fun H locs hP hD hS => ?_)
      have hP : va_P D vwCl ([moW cy a (su Y 2 (f + i) (Y 0 (0 + i)))] : List va_W).flatten H := hP
      have hD : va_D A ([moW cy a (su Y 2 (f + i) (Y 0 (0 + i)))] : List va_W).flatten := hD
      refine lv_iinc (v := nI (i + 1)) (lv' := [(4, .int (nI (i + 1))), (0, .ref (a 1)), (1, .int (nI 0)), (2, .ref (a 3)), (3, .int (nI f))]) hx hb dX5_copyState_23 hl (k := 0) rfl (wl_inc i) (by decide) rfl (fun ls hl => ?_)
      refine lv_goto (tgt := 3) hx hb dX5_copyState_26 (by decide) ?_
      exact ih3 (i + 1) (su Y 2 (f + i) (Y 0 (0 + i))) (by omega) (by omega) (by rw [hW]; exact q_cp1) _ _ _ hP hD hS (lv_sub hl [0, 1, 2, 3, 4] rfl)
set_option maxHeartbeats 4000000 in
set_option maxRecDepth 100000 in
theorem m_X5_copyState_Kz (l : Launch) (D : va_G) (cy : Nat → ClassId) (a : Nat → Nat) (u : Nat → Nat → Int32) (f : Nat) (sz : Nat) (hf : f ≤ 170) : Met l yX5_copyState wsX5_copyState ({ frames := 0, cells := 0, slots := 0, locals := 0 } : Room) (wl_ic D cy (fun _ => True) [moW cy a u] sz [.ref (a 3), .int (nI f), .ref (a 1), .int (nI 0)]) (va_Qv (fun (bs : List va_W) => bs = [moW cy a (sf u 0 (q_cp (u 2) (u 0) f 0 170))]) (wl_ib D [moW cy a u] sz) (va_A ([moW cy a u] : List va_W).flatten sz)) 0 0 (va_A ([moW cy a u] : List va_W).flatten sz) := by
  refine wl_ofI (cc := cX5_copyState) (maxL := 5) (ret := none) (by decide) rfl (Nat.le_of_ble_eq_true rfl) ?_
  intro p e s m below meth c ls A hx hb hr hts hown hlocks hml hnm hsz hAe hP hK hD hX hA hS hl
  have hl : lv_has ls 5 [(0, .ref (a 3)), (1, .int (nI f)), (2, .ref (a 1)), (3, .int (nI 0))] := hl
  refine lv_iconst (v := 0) hx hb dX5_copyState_0 (by decide) ?_
  refine lv_istore (lv' := [(4, .int 0), (0, .ref (a 3)), (1, .int (nI f)), (2, .ref (a 1)), (3, .int (nI 0))]) hx hb dX5_copyState_1 hl (by decide) rfl (fun ls hl => ?_)
  suffices K1 : ∀ (n2 : Nat) (i : Nat) (Y : Nat → Nat → Int32), 170 - i < n2 → (i ≤ 170) → (Y = sf u 0 (q_cp (u 2) (u 0) f 0 i)) → ∀ (ls : Array Slot) (H : Heap) (locs : List Loc), va_P D vwCl ([moW cy a Y] : List va_W).flatten H → va_D A ([moW cy a Y] : List va_W).flatten → va_S A s.heap H locs → lv_has ls 5 [(4, .int (nI i)), (0, .ref (a 3)), (1, .int (nI f)), (2, .ref (a 1)), (3, .int (nI 0))] → W p l e ({ frames := 0, cells := 0, slots := 0, locals := 0 } : Room) s m ([.ref (a 3), .int (nI f), .ref (a 1), .int (nI 0)] : List Value).toArray below meth c H locs 0 0 (MQ below (va_Qv (fun (bs : List va_W) => bs = [moW cy a (sf u 0 (q_cp (u 2) (u 0) f 0 170))]) (wl_ib D [moW cy a u] sz) (va_A ([moW cy a u] : List va_W).flatten sz)) ([.ref (a 3), .int (nI f), .ref (a 1), .int (nI 0)] : List Value).toArray s 0 0 (va_A ([moW cy a u] : List va_W).flatten sz)) (F0 m 3 ls []) from K1 171 0 u (by omega) (by omega) q_cp0 _ _ _ hP hD hS (lv_sub hl [0, 1, 2, 3, 4] rfl)
  intro n2
  induction n2 with
  | zero => intro i Y hm; exact absurd hm (Nat.not_lt_zero _)
  | succ n2 ih3 =>
    intro i Y hm hi hW ls H locs hP hD hS hl
    refine lv_iload hx hb dX5_copyState_3 (lv_at hl 0 rfl) ?_
    refine lv_sipush (v := 170) hx hb dX5_copyState_5 (by decide) ?_
    refine wl_icmp_ge (tgt := 29) hx hb i 170 dX5_copyState_8 (by decide) (by omega) (by omega) (fun c4 => ?_) (fun c4 => ?_)
    · exact wl_Rv (bs := [moW cy a Y]) hx hb hr hlocks hAe hP hD hS (by obtain rfl : i = 170 := (by omega); rw [hW]) dX5_copyState_29
    · refine lv_aload_n hx hb dX5_copyState_11 rfl (lv_at hl 3 rfl) ?_
      refine lv_iload_n hx hb dX5_copyState_12 rfl (lv_at hl 4 rfl) ?_
      refine lv_iload hx hb dX5_copyState_13 (lv_at hl 0 rfl) ?_
      refine lv_iadd hx hb dX5_copyState_15 ?_
      refine wl_top (y := nI (0 + i)) (nI_add 0 i) ?_
      refine lv_aload_n hx hb dX5_copyState_16 rfl (lv_at hl 1 rfl) ?_
      refine lv_iload_n hx hb dX5_copyState_17 rfl (lv_at hl 2 rfl) ?_
      refine lv_iload hx hb dX5_copyState_18 (lv_at hl 0 rfl) ?_
      refine lv_iadd hx hb dX5_copyState_20 ?_
      refine wl_top (y := nI (f + i)) (nI_add f i) ?_
      refine wl_iald hx hb hK hP 0 3 rfl rfl (f + i) (by omega) (Nat.le_of_ble_eq_true rfl) dX5_copyState_21 ?_
      refine wl_iast hx hb hK hP hD hS 0 1 rfl rfl (0 + i) (by omega) (Nat.le_of_ble_eq_true rfl) dX5_copyState_22 (fun H locs hP hD hS => ?_)
      have hP : va_P D vwCl ([moW cy a (su Y 0 (0 + i) (Y 2 (f + i)))] : List va_W).flatten H := hP
      have hD : va_D A ([moW cy a (su Y 0 (0 + i) (Y 2 (f + i)))] : List va_W).flatten := hD
      refine lv_iinc (v := nI (i + 1)) (lv' := [(4, .int (nI (i + 1))), (0, .ref (a 3)), (1, .int (nI f)), (2, .ref (a 1)), (3, .int (nI 0))]) hx hb dX5_copyState_23 hl (k := 0) rfl (wl_inc i) (by decide) rfl (fun ls hl => ?_)
      refine lv_goto (tgt := 3) hx hb dX5_copyState_26 (by decide) ?_
      exact ih3 (i + 1) (su Y 0 (0 + i) (Y 2 (f + i))) (by omega) (by omega) (by rw [hW]; exact q_cp1) _ _ _ hP hD hS (lv_sub hl [0, 1, 2, 3, 4] rfl)
set_option maxHeartbeats 4000000 in
set_option maxRecDepth 100000 in
theorem m_X5_saveState_n (l : Launch) (D : va_G) (cy : Nat → ClassId) (a : Nat → Nat) (u : Nat → Nat → Int32) (k : Nat) (sz : Nat) (hk : u 6 0 = nI k) (hk2 : k < 6) : Met l yX5_saveState wsX5_saveState ({ frames := 1, cells := 0, slots := 0, locals := 24 } : Room) (wl_ic D cy (fun _ => True) [moW cy a u] sz [.ref (a 0)]) (va_Qv (fun (bs : List va_W) => bs = [moW cy a (q_sv u k)]) (wl_ib D [moW cy a u] sz) (va_A ([moW cy a u] : List va_W).flatten sz)) 0 0 (va_A ([moW cy a u] : List va_W).flatten sz) := by
  refine wl_ofI (cc := cX5_saveState) (maxL := 2) (ret := none) (by decide) rfl (Nat.le_of_ble_eq_true rfl) ?_
  intro p e s m below meth c ls A hx hb hr hts hown hlocks hml hnm hsz hAe hP hK hD hX hA hS hl
  have hl : lv_has ls 2 [(0, .ref (a 0))] := hl
  have lkf13 := hts (.fieldLink RX5 13 "WireLampsModel" "saved" "[I") (by decide +kernel)
  have lkf40 := hts (.fieldLink RX5 40 "WireLampsModel" "savedMany" "I") (by decide +kernel)
  have lkf7 := hts (.fieldLink RX5 7 "WireLampsModel" "z" "[I") (by decide +kernel)
  have in_X5 : ∀ w ∈ u_ws RX5 TX5 13, w ∈ wsX5_saveState := by decide +kernel
  refine lv_aload_n hx hb dX5_saveState_0 rfl (lv_at hl 0 rfl) ?_
  refine wl_getf (C := RX5) (T := TX5) (N := 13) (ci := 5) (v := .int (u 6 0)) hx hb hts in_X5 hown hK hP 0 0 rfl rfl rfl 2 (by decide) lkf40 rfl rfl dX5_saveState_1 ?_
  refine wl_top (y := nI k) hk ?_
  refine lv_bipush (v := 6) hx hb dX5_saveState_4 (by decide) ?_
  refine wl_icmp_ne (tgt := 50) hx hb k 6 dX5_saveState_6 (by decide) (by omega) (by omega) (fun c1 => ?_) (fun c1 => absurd c1 (by omega))
  refine lv_aload_n hx hb dX5_saveState_50 rfl (lv_at hl 0 rfl) ?_
  refine wl_getf (C := RX5) (T := TX5) (N := 13) (ci := 5) (v := .ref (a 1)) hx hb hts in_X5 hown hK hP 0 0 rfl rfl rfl 0 (by decide) lkf7 rfl rfl dX5_saveState_51 ?_
  refine lv_iconst (v := 0) hx hb dX5_saveState_54 (by decide) ?_
  refine lv_aload_n hx hb dX5_saveState_55 rfl (lv_at hl 0 rfl) ?_
  refine wl_getf (C := RX5) (T := TX5) (N := 13) (ci := 5) (v := .ref (a 2)) hx hb hts in_X5 hown hK hP 0 0 rfl rfl rfl 1 (by decide) lkf13 rfl rfl dX5_saveState_56 ?_
  refine lv_sipush (v := 170) hx hb dX5_saveState_59 (by decide) ?_
  refine lv_aload_n hx hb dX5_saveState_62 rfl (lv_at hl 0 rfl) ?_
  refine wl_getf (C := RX5) (T := TX5) (N := 13) (ci := 5) (v := .int (u 6 0)) hx hb hts in_X5 hown hK hP 0 0 rfl rfl rfl 2 (by decide) lkf40 rfl rfl dX5_saveState_63 ?_
  refine wl_top (y := nI k) hk ?_
  refine lv_imul hx hb dX5_saveState_66 ?_
  refine wl_top (y := nI (170 * k)) (pk_mul 170 k) ?_
  refine wl_iSv (As := [.ref (a 1), .int 0, .ref (a 2), .int (nI (170 * k))]) (rest := []) (bsC := [moW cy a u]) (bsR := []) ⟨hx, hb, hml, hown, hts⟩ (m_X5_copyState_zS l D cy a u (170 * k) s.heap.size (by omega)) (va_cwS 4 hts gX5_saveState_X5_copyState rfl rfl rfl (by decide +kernel) ⟨Nat.le_of_ble_eq_true rfl, Nat.le_of_ble_eq_true rfl⟩) wl_xT (fun _ _ _ => trivial) hK hP hD hS hA rfl hl.1 rfl (Nat.le_of_ble_eq_true rfl) dX5_saveState_67 ⟨Nat.le_of_ble_eq_true rfl, Nat.le_of_ble_eq_true rfl⟩ (fun bs2 H locs e3 _ _ hP hD hS => ?_)
  have e3 : bs2 = [moW cy a (sf u 1 (q_cp (u 0) (u 1) 0 (170 * k) 170))] := e3
  subst e3
  have hP : va_P D vwCl ([moW cy a (sf u 1 (q_cp (u 0) (u 1) 0 (170 * k) 170))] : List va_W).flatten H := hP
  have hD : va_D A ([moW cy a (sf u 1 (q_cp (u 0) (u 1) 0 (170 * k) 170))] : List va_W).flatten := hD
  refine lv_aload_n hx hb dX5_saveState_70 rfl (lv_at hl 0 rfl) ?_
  refine lv_dup hx hb dX5_saveState_71 rfl ?_
  refine wl_getf (C := RX5) (T := TX5) (N := 13) (ci := 5) (v := .int ((sf u 1 (q_cp (u 0) (u 1) 0 (170 * k) 170)) 6 0)) hx hb hts in_X5 hown hK hP 0 0 rfl rfl rfl 2 (by decide) lkf40 rfl rfl dX5_saveState_72 ?_
  refine wl_top (y := nI k) hk ?_
  refine lv_iconst (v := 1) hx hb dX5_saveState_75 (by decide) ?_
  refine lv_iadd hx hb dX5_saveState_76 ?_
  refine wl_top (y := nI (k + 1)) (nI_add k 1) ?_
  refine wl_putf (C := RX5) (T := TX5) (N := 13) (ci := 5) (v := .int (nI (k + 1))) hx hb hts in_X5 tyX5 tyX5_ok nmX5 hown hK hP hD hS 0 0 rfl rfl rfl 2 (by decide) lkf40 rfl rfl rfl rfl (Nat.le_of_ble_eq_true rfl) dX5_saveState_77 (fun H locs hP hD hS => ?_)
  have hP : va_P D vwCl ([moW cy a (su (sf u 1 (q_cp (u 0) (u 1) 0 (170 * k) 170)) 6 0 (nI (k + 1)))] : List va_W).flatten H := hP
  have hD : va_D A ([moW cy a (su (sf u 1 (q_cp (u 0) (u 1) 0 (170 * k) 170)) 6 0 (nI (k + 1)))] : List va_W).flatten := hD
  exact wl_Rv (bs := [moW cy a (su (sf u 1 (q_cp (u 0) (u 1) 0 (170 * k) 170)) 6 0 (nI (k + 1)))]) hx hb hr hlocks hAe hP hD hS (by exact congrArg (fun y => [moW cy a y]) (q_sv_n hk2)) dX5_saveState_80
set_option maxHeartbeats 4000000 in
set_option maxRecDepth 100000 in
theorem m_X5_saveState_f (l : Launch) (D : va_G) (cy : Nat → ClassId) (a : Nat → Nat) (u : Nat → Nat → Int32) (sz : Nat) (hk : u 6 0 = nI 6) : Met l yX5_saveState wsX5_saveState ({ frames := 1, cells := 0, slots := 0, locals := 24 } : Room) (wl_ic D cy (fun _ => True) [moW cy a u] sz [.ref (a 0)]) (va_Qv (fun (bs : List va_W) => bs = [moW cy a (q_sv u 6)]) (wl_ib D [moW cy a u] sz) (va_A ([moW cy a u] : List va_W).flatten sz)) 0 0 (va_A ([moW cy a u] : List va_W).flatten sz) := by
  refine wl_ofI (cc := cX5_saveState) (maxL := 2) (ret := none) (by decide) rfl (Nat.le_of_ble_eq_true rfl) ?_
  intro p e s m below meth c ls A hx hb hr hts hown hlocks hml hnm hsz hAe hP hK hD hX hA hS hl
  have hl : lv_has ls 2 [(0, .ref (a 0))] := hl
  have lkf13 := hts (.fieldLink RX5 13 "WireLampsModel" "saved" "[I") (by decide +kernel)
  have lkf40 := hts (.fieldLink RX5 40 "WireLampsModel" "savedMany" "I") (by decide +kernel)
  have lkf7 := hts (.fieldLink RX5 7 "WireLampsModel" "z" "[I") (by decide +kernel)
  have in_X5 : ∀ w ∈ u_ws RX5 TX5 13, w ∈ wsX5_saveState := by decide +kernel
  refine lv_aload_n hx hb dX5_saveState_0 rfl (lv_at hl 0 rfl) ?_
  refine wl_getf (C := RX5) (T := TX5) (N := 13) (ci := 5) (v := .int (u 6 0)) hx hb hts in_X5 hown hK hP 0 0 rfl rfl rfl 2 (by decide) lkf40 rfl rfl dX5_saveState_1 ?_
  refine wl_top (y := nI 6) hk ?_
  refine lv_bipush (v := 6) hx hb dX5_saveState_4 (by decide) ?_
  refine wl_icmp_ne (tgt := 50) hx hb 6 6 dX5_saveState_6 (by decide) (by omega) (by omega) (fun c1 => absurd c1 (by decide)) (fun c1 => ?_)
  refine lv_iconst (v := 0) hx hb dX5_saveState_9 (by decide) ?_
  refine lv_istore_n (lv' := [(1, .int 0), (0, .ref (a 0))]) hx hb dX5_saveState_10 rfl hl (by decide) rfl (fun ls hl => ?_)
  suffices K2 : ∀ (n3 : Nat) (i : Nat) (Y : Nat → Nat → Int32), 850 - i < n3 → (i ≤ 850) → (Y = sf u 1 (q_sl (u 1) i)) → ∀ (ls : Array Slot) (H : Heap) (locs : List Loc), va_P D vwCl ([moW cy a Y] : List va_W).flatten H → va_D A ([moW cy a Y] : List va_W).flatten → va_S A s.heap H locs → lv_has ls 2 [(1, .int (nI i)), (0, .ref (a 0))] → W p l e ({ frames := 1, cells := 0, slots := 0, locals := 24 } : Room) s m ([.ref (a 0)] : List Value).toArray below meth c H locs 0 0 (MQ below (va_Qv (fun (bs : List va_W) => bs = [moW cy a (q_sv u 6)]) (wl_ib D [moW cy a u] sz) (va_A ([moW cy a u] : List va_W).flatten sz)) ([.ref (a 0)] : List Value).toArray s 0 0 (va_A ([moW cy a u] : List va_W).flatten sz)) (F0 m 11 ls []) from K2 851 0 u (by omega) (by omega) q_sl0 _ _ _ hP hD hS (lv_sub hl [0, 1] rfl)
  intro n3
  induction n3 with
  | zero => intro i Y hm; exact absurd hm (Nat.not_lt_zero _)
  | succ n3 ih4 =>
    intro i Y hm hi hW ls H locs hP hD hS hl
    refine lv_iload_n hx hb dX5_saveState_11 rfl (lv_at hl 0 rfl) ?_
    refine lv_sipush (v := 850) hx hb dX5_saveState_12 (by decide) ?_
    refine wl_icmp_ge (tgt := 40) hx hb i 850 dX5_saveState_15 (by decide) (by omega) (by omega) (fun c5 => ?_) (fun c5 => ?_)
    · obtain rfl : i = 850 := by omega
      refine lv_aload_n hx hb dX5_saveState_40 rfl (lv_at hl 1 rfl) ?_
      refine lv_dup hx hb dX5_saveState_41 rfl ?_
      refine wl_getf (C := RX5) (T := TX5) (N := 13) (ci := 5) (v := .int (Y 6 0)) hx hb hts in_X5 hown hK hP 0 0 rfl rfl rfl 2 (by decide) lkf40 rfl rfl dX5_saveState_42 ?_
      refine wl_top (y := nI 6) (by rw [hW]; exact hk) ?_
      refine lv_iconst (v := 1) hx hb dX5_saveState_45 (by decide) ?_
      refine lv_isub hx hb dX5_saveState_46 ?_
      refine wl_top (y := nI 5) (pk_sub (a := 6) (b := 1) (by omega)) ?_
      refine wl_putf (C := RX5) (T := TX5) (N := 13) (ci := 5) (v := .int (nI 5)) hx hb hts in_X5 tyX5 tyX5_ok nmX5 hown hK hP hD hS 0 0 rfl rfl rfl 2 (by decide) lkf40 rfl rfl rfl rfl (Nat.le_of_ble_eq_true rfl) dX5_saveState_47 (fun H locs hP hD hS => ?_)
      have hP : va_P D vwCl ([moW cy a (su Y 6 0 (nI 5))] : List va_W).flatten H := hP
      have hD : va_D A ([moW cy a (su Y 6 0 (nI 5))] : List va_W).flatten := hD
      refine lv_aload_n hx hb dX5_saveState_50 rfl (lv_at hl 1 rfl) ?_
      refine wl_getf (C := RX5) (T := TX5) (N := 13) (ci := 5) (v := .ref (a 1)) hx hb hts in_X5 hown hK hP 0 0 rfl rfl rfl 0 (by decide) lkf7 rfl rfl dX5_saveState_51 ?_
      refine lv_iconst (v := 0) hx hb dX5_saveState_54 (by decide) ?_
      refine lv_aload_n hx hb dX5_saveState_55 rfl (lv_at hl 1 rfl) ?_
      refine wl_getf (C := RX5) (T := TX5) (N := 13) (ci := 5) (v := .ref (a 2)) hx hb hts in_X5 hown hK hP 0 0 rfl rfl rfl 1 (by decide) lkf13 rfl rfl dX5_saveState_56 ?_
      refine lv_sipush (v := 170) hx hb dX5_saveState_59 (by decide) ?_
      refine lv_aload_n hx hb dX5_saveState_62 rfl (lv_at hl 1 rfl) ?_
      refine wl_getf (C := RX5) (T := TX5) (N := 13) (ci := 5) (v := .int (nI 5)) hx hb hts in_X5 hown hK hP 0 0 rfl rfl rfl 2 (by decide) lkf40 rfl rfl dX5_saveState_63 ?_
      refine lv_imul hx hb dX5_saveState_66 ?_
      refine wl_top (y := nI (170 * 5)) (pk_mul 170 5) ?_
      refine wl_iSv (As := [.ref (a 1), .int 0, .ref (a 2), .int (nI (170 * 5))]) (rest := []) (bsC := [moW cy a (su Y 6 0 (nI 5))]) (bsR := []) ⟨hx, hb, hml, hown, hts⟩ (m_X5_copyState_zS l D cy a (su Y 6 0 (nI 5)) (170 * 5) H.size (by omega)) (va_cwS 4 hts gX5_saveState_X5_copyState rfl rfl rfl (by decide +kernel) ⟨Nat.le_of_ble_eq_true rfl, Nat.le_of_ble_eq_true rfl⟩) wl_xT (fun _ _ _ => trivial) hK hP hD hS hA rfl hl.1 rfl (Nat.le_of_ble_eq_true rfl) dX5_saveState_67 ⟨Nat.le_of_ble_eq_true rfl, Nat.le_of_ble_eq_true rfl⟩ (fun bs6 H locs e7 _ _ hP hD hS => ?_)
      have e7 : bs6 = [moW cy a (sf (su Y 6 0 (nI 5)) 1 (q_cp ((su Y 6 0 (nI 5)) 0) ((su Y 6 0 (nI 5)) 1) 0 (170 * 5) 170))] := e7
      subst e7
      have hP : va_P D vwCl ([moW cy a (sf (su Y 6 0 (nI 5)) 1 (q_cp ((su Y 6 0 (nI 5)) 0) ((su Y 6 0 (nI 5)) 1) 0 (170 * 5) 170))] : List va_W).flatten H := hP
      have hD : va_D A ([moW cy a (sf (su Y 6 0 (nI 5)) 1 (q_cp ((su Y 6 0 (nI 5)) 0) ((su Y 6 0 (nI 5)) 1) 0 (170 * 5) 170))] : List va_W).flatten := hD
      refine lv_aload_n hx hb dX5_saveState_70 rfl (lv_at hl 1 rfl) ?_
      refine lv_dup hx hb dX5_saveState_71 rfl ?_
      refine wl_getf (C := RX5) (T := TX5) (N := 13) (ci := 5) (v := .int ((sf (su Y 6 0 (nI 5)) 1 (q_cp ((su Y 6 0 (nI 5)) 0) ((su Y 6 0 (nI 5)) 1) 0 (170 * 5) 170)) 6 0)) hx hb hts in_X5 hown hK hP 0 0 rfl rfl rfl 2 (by decide) lkf40 rfl rfl dX5_saveState_72 ?_
      refine wl_top (y := nI 5) rfl ?_
      refine lv_iconst (v := 1) hx hb dX5_saveState_75 (by decide) ?_
      refine lv_iadd hx hb dX5_saveState_76 ?_
      refine wl_top (y := nI 6) (nI_add 5 1) ?_
      refine wl_putf (C := RX5) (T := TX5) (N := 13) (ci := 5) (v := .int (nI 6)) hx hb hts in_X5 tyX5 tyX5_ok nmX5 hown hK hP hD hS 0 0 rfl rfl rfl 2 (by decide) lkf40 rfl rfl rfl rfl (Nat.le_of_ble_eq_true rfl) dX5_saveState_77 (fun H locs hP hD hS => ?_)
      have hP : va_P D vwCl ([moW cy a (su (sf (su Y 6 0 (nI 5)) 1 (q_cp ((su Y 6 0 (nI 5)) 0) ((su Y 6 0 (nI 5)) 1) 0 (170 * 5) 170)) 6 0 (nI 6))] : List va_W).flatten H := hP
      have hD : va_D A ([moW cy a (su (sf (su Y 6 0 (nI 5)) 1 (q_cp ((su Y 6 0 (nI 5)) 0) ((su Y 6 0 (nI 5)) 1) 0 (170 * 5) 170)) 6 0 (nI 6))] : List va_W).flatten := hD
      exact wl_Rv (bs := [moW cy a (su (sf (su Y 6 0 (nI 5)) 1 (q_cp ((su Y 6 0 (nI 5)) 0) ((su Y 6 0 (nI 5)) 1) 0 (170 * 5) 170)) 6 0 (nI 6))]) hx hb hr hlocks hAe hP hD hS (by subst hW; exact congrArg (fun y => [moW cy a y]) q_sv_6) dX5_saveState_80
    · refine lv_aload_n hx hb dX5_saveState_18 rfl (lv_at hl 1 rfl) ?_
      refine wl_getf (C := RX5) (T := TX5) (N := 13) (ci := 5) (v := .ref (a 2)) hx hb hts in_X5 hown hK hP 0 0 rfl rfl rfl 1 (by decide) lkf13 rfl rfl dX5_saveState_19 ?_
      refine lv_iload_n hx hb dX5_saveState_22 rfl (lv_at hl 0 rfl) ?_
      refine lv_aload_n hx hb dX5_saveState_23 rfl (lv_at hl 1 rfl) ?_
      refine wl_getf (C := RX5) (T := TX5) (N := 13) (ci := 5) (v := .ref (a 2)) hx hb hts in_X5 hown hK hP 0 0 rfl rfl rfl 1 (by decide) lkf13 rfl rfl dX5_saveState_24 ?_
      refine lv_iload_n hx hb dX5_saveState_27 rfl (lv_at hl 0 rfl) ?_
      refine lv_sipush (v := 170) hx hb dX5_saveState_28 (by decide) ?_
      refine lv_iadd hx hb dX5_saveState_31 ?_
      refine wl_top (y := nI (i + 170)) (nI_add i 170) ?_
      refine wl_iald hx hb hK hP 0 2 rfl rfl (i + 170) (by omega) (Nat.le_of_ble_eq_true rfl) dX5_saveState_32 ?_
      refine wl_iast hx hb hK hP hD hS 0 2 rfl rfl i (by omega) (Nat.le_of_ble_eq_true rfl) dX5_saveState_33 (fun H locs hP hD hS => ?_)
      have hP : va_P D vwCl ([moW cy a (su Y 1 i (Y 1 (i + 170)))] : List va_W).flatten H := hP
      have hD : va_D A ([moW cy a (su Y 1 i (Y 1 (i + 170)))] : List va_W).flatten := hD
      refine lv_iinc (v := nI (i + 1)) (lv' := [(1, .int (nI (i + 1))), (0, .ref (a 0))]) hx hb dX5_saveState_34 hl (k := 0) rfl (wl_inc i) (by decide) rfl (fun ls hl => ?_)
      refine lv_goto (tgt := 11) hx hb dX5_saveState_37 (by decide) ?_
      exact ih4 (i + 1) (su Y 1 i (Y 1 (i + 170))) (by omega) (by omega) (by rw [hW]; exact q_sl1) _ _ _ hP hD hS (lv_sub hl [0, 1] rfl)
theorem m_X5_saveState (l : Launch) (D : va_G) (cy : Nat → ClassId) (a : Nat → Nat) (u : Nat → Nat → Int32) (k : Nat) (sz : Nat) (hk : u 6 0 = nI k) (hk2 : k ≤ 6) : Met l yX5_saveState wsX5_saveState ({ frames := 1, cells := 0, slots := 0, locals := 24 } : Room) (wl_ic D cy (fun _ => True) [moW cy a u] sz [.ref (a 0)]) (va_Qv (fun (bs : List va_W) => bs = [moW cy a (q_sv u k)]) (wl_ib D [moW cy a u] sz) (va_A ([moW cy a u] : List va_W).flatten sz)) 0 0 (va_A ([moW cy a u] : List va_W).flatten sz) := by
  rcases Nat.lt_or_ge k 6 with h | h
  · exact m_X5_saveState_n l D cy a u k sz hk h
  · obtain rfl : k = 6 := by omega
    exact m_X5_saveState_f l D cy a u sz hk
