/-! WireLampsModel: looks -/
set_option maxHeartbeats 4000000 in
set_option maxRecDepth 100000 in
theorem m_X5_colour (l : Launch) (D : va_G) (cy : Nat → ClassId) (x : Int32) (k : Nat) (hk : k < 3) : Met l yX5_colour wsX5_colour ({ frames := 0, cells := 0, slots := 0, locals := 0 } : Room) (wl_pc D cy [] [.int x, .int (nI k)]) (vp_Si (fun r : Int32 => r = q_br x (nI k))) 0 0 (fun _ => False) := by
  refine wl_ofP (cc := cX5_colour) (maxL := 2) (ret := (some .int)) (by decide) rfl (Nat.le_of_ble_eq_true rfl) ?_
  intro p e s m below meth c ls hx hb hr hts hown hlocks hml hP hK hl
  have hl : lv_has ls 2 [(0, .int x), (1, .int (nI k))] := hl
  refine lv_iload_n hx hb dX5_colour_0 rfl (lv_at hl 0 rfl) ?_
  refine lv_iconst (v := 4) hx hb dX5_colour_1 (by decide) ?_
  refine lv_iconst (v := 2) hx hb dX5_colour_2 (by decide) ?_
  refine lv_iload_n hx hb dX5_colour_3 rfl (lv_at hl 1 rfl) ?_
  refine lv_isub hx hb dX5_colour_4 ?_
  refine wl_top (y := nI (2 - k)) (pk_sub (a := 2) (b := k) (by omega)) ?_
  refine lv_imul hx hb dX5_colour_5 ?_
  refine wl_top (y := nI (4 * (2 - k))) (pk_mul 4 (2 - k)) ?_
  refine lv_ishr hx hb dX5_colour_6 ?_
  refine lv_bipush (v := 15) hx hb dX5_colour_7 (by decide) ?_
  refine lv_iand hx hb dX5_colour_9 ?_
  exact wl_ri (r := ((x >>> ((nI (4 * (2 - k))) &&& 31)) &&& 15)) hx hb hr hlocks (by exact q_col hk) dX5_colour_10
set_option maxHeartbeats 4000000 in
set_option maxRecDepth 100000 in
theorem m_X5_wanted (l : Launch) (D : va_G) (cy : Nat → ClassId) (a : Nat → Nat) (u : Nat → Nat → Int32)  : Met l yX5_wanted wsX5_wanted ({ frames := 1, cells := 0, slots := 0, locals := 21 } : Room) (wl_pc D cy [moW cy a u] [.ref (a 0)]) (vp_Si (fun r : Int32 => r = q_cw (zv u))) 0 0 (fun _ => False) := by
  refine wl_ofP (cc := cX5_wanted) (maxL := 4) (ret := (some .int)) (by decide) rfl (Nat.le_of_ble_eq_true rfl) ?_
  intro p e s m below meth c ls hx hb hr hts hown hlocks hml hP hK hl
  have hl : lv_has ls 4 [(0, .ref (a 0))] := hl
  have lkf7 := hts (.fieldLink RX5 7 "WireLampsModel" "z" "[I") (by decide +kernel)
  have in_X5 : ∀ w ∈ u_ws RX5 TX5 13, w ∈ wsX5_wanted := by decide +kernel
  refine lv_iconst (v := 0) hx hb dX5_wanted_0 (by decide) ?_
  refine lv_istore_n (lv' := [(1, .int 0), (0, .ref (a 0))]) hx hb dX5_wanted_1 rfl hl (by decide) rfl (fun ls hl => ?_)
  refine lv_iconst (v := 0) hx hb dX5_wanted_2 (by decide) ?_
  refine lv_istore_n (lv' := [(2, .int 0), (1, .int 0), (0, .ref (a 0))]) hx hb dX5_wanted_3 rfl hl (by decide) rfl (fun ls hl => ?_)
  suffices K1 : ∀ (n2 : Nat) (i : Nat), 8 - i < n2 → (i ≤ 8) → ∀ (ls : Array Slot), lv_has ls 4 [(2, .int (nI i)), (1, .int (q_sum2 (fun y z => q_br (zv u 3 y) (nI z)) i)), (0, .ref (a 0))] → W p l e ({ frames := 1, cells := 0, slots := 0, locals := 21 } : Room) s m ([.ref (a 0)] : List Value).toArray below meth c s.heap [] 0 0 (MQ below (vp_Si (fun r : Int32 => r = q_cw (zv u))) ([.ref (a 0)] : List Value).toArray s 0 0 (fun _ => False)) (F0 m 4 ls []) from K1 9 0 (by omega) (by omega) _  (lv_sub hl [0, 1, 2] rfl)
  intro n2
  induction n2 with
  | zero => intro i hm; exact absurd hm (Nat.not_lt_zero _)
  | succ n2 ih3 =>
    intro i hm hi ls  hl
    refine lv_iload_n hx hb dX5_wanted_4 rfl (lv_at hl 0 rfl) ?_
    refine lv_bipush (v := 8) hx hb dX5_wanted_5 (by decide) ?_
    refine wl_icmp_ge (tgt := 45) hx hb i 8 dX5_wanted_7 (by decide) (by omega) (by omega) (fun c4 => ?_) (fun c4 => ?_)
    · obtain rfl : i = 8 := by omega
      refine lv_iload_n hx hb dX5_wanted_45 rfl (lv_at hl 1 rfl) ?_
      exact wl_ri (r := (q_sum2 (fun y z => q_br (zv u 3 y) (nI z)) 8)) hx hb hr hlocks (by rfl) dX5_wanted_46
    · refine lv_iconst (v := 0) hx hb dX5_wanted_10 (by decide) ?_
      refine lv_istore_n (lv' := [(3, .int 0), (2, .int (nI i)), (1, .int (q_sum2 (fun y z => q_br (zv u 3 y) (nI z)) i)), (0, .ref (a 0))]) hx hb dX5_wanted_11 rfl hl (by decide) rfl (fun ls hl => ?_)
      suffices K5 : ∀ (n6 : Nat) (k : Nat), 3 - k < n6 → (k ≤ 3) → ∀ (ls : Array Slot), lv_has ls 4 [(3, .int (nI k)), (2, .int (nI i)), (1, .int (q_in (fun z => q_br (zv u 3 i) (nI z)) k (q_sum2 (fun y z => q_br (zv u 3 y) (nI z)) i))), (0, .ref (a 0))] → W p l e ({ frames := 1, cells := 0, slots := 0, locals := 21 } : Room) s m ([.ref (a 0)] : List Value).toArray below meth c s.heap [] 0 0 (MQ below (vp_Si (fun r : Int32 => r = q_cw (zv u))) ([.ref (a 0)] : List Value).toArray s 0 0 (fun _ => False)) (F0 m 12 ls []) from K5 4 0 (by omega) (by omega) _  (lv_sub hl [0, 1, 2, 3] rfl)
      intro n6
      induction n6 with
      | zero => intro k hm; exact absurd hm (Nat.not_lt_zero _)
      | succ n6 ih7 =>
        intro k hm hk ls  hl
        refine lv_iload_n hx hb dX5_wanted_12 rfl (lv_at hl 0 rfl) ?_
        refine lv_iconst (v := 3) hx hb dX5_wanted_13 (by decide) ?_
        refine wl_icmp_ge (tgt := 39) hx hb k 3 dX5_wanted_14 (by decide) (by omega) (by omega) (fun c8 => ?_) (fun c8 => ?_)
        · obtain rfl : k = 3 := by omega
          refine lv_iinc (v := nI (i + 1)) (lv' := [(2, .int (nI (i + 1))), (3, .int (nI 3)), (1, .int (q_in (fun z => q_br (zv u 3 i) (nI z)) 3 (q_sum2 (fun y z => q_br (zv u 3 y) (nI z)) i))), (0, .ref (a 0))]) hx hb dX5_wanted_39 hl (k := 1) rfl (wl_inc i) (by decide) rfl (fun ls hl => ?_)
          refine lv_goto (tgt := 4) hx hb dX5_wanted_42 (by decide) ?_
          exact ih3 (i + 1) (by omega) (by omega) _  (lv_sub hl [0, 2, 3] rfl)
        · refine lv_iload_n hx hb dX5_wanted_17 rfl (lv_at hl 2 rfl) ?_
          refine lv_aload_n hx hb dX5_wanted_18 rfl (lv_at hl 3 rfl) ?_
          refine wl_getf (C := RX5) (T := TX5) (N := 13) (ci := 5) (v := .ref (a 1)) hx hb hts in_X5 hown hK hP 0 0 rfl rfl rfl 0 (by decide) lkf7 rfl rfl dX5_wanted_19 ?_
          refine lv_bipush (v := 24) hx hb dX5_wanted_22 (by decide) ?_
          refine lv_iload_n hx hb dX5_wanted_24 rfl (lv_at hl 1 rfl) ?_
          refine lv_iadd hx hb dX5_wanted_25 ?_
          refine wl_top (y := nI (24 + i)) (nI_add 24 i) ?_
          refine wl_iald hx hb hK hP 0 1 rfl rfl (24 + i) (by omega) (Nat.le_of_ble_eq_true rfl) dX5_wanted_26 ?_
          refine wl_top (y := zv u 3 i) rfl ?_
          refine lv_iload_n hx hb dX5_wanted_27 rfl (lv_at hl 0 rfl) ?_
          refine wl_pS (As := [.int (zv u 3 i), .int (nI k)]) (rest := [.int (q_in (fun z => q_br (zv u 3 i) (nI z)) k (q_sum2 (fun y z => q_br (zv u 3 y) (nI z)) i))]) ⟨hx, hb, hml, hown, hts⟩ (m_X5_colour l D cy (zv u 3 i) k (by omega)) (va_cwS 2 hts gX5_wanted_X5_colour rfl rfl rfl (by decide +kernel) ⟨Nat.le_of_ble_eq_true rfl, Nat.le_of_ble_eq_true rfl⟩) hK hP [] rfl rfl hl.1 rfl (Nat.le_of_ble_eq_true rfl) dX5_wanted_28 ⟨Nat.le_of_ble_eq_true rfl, Nat.le_of_ble_eq_true rfl⟩ (fun r9 er9 => ?_)
          have er9 : r9 = q_br (zv u 3 i) (nI k) := er9
          subst er9
          refine lv_iadd hx hb dX5_wanted_31 ?_
          refine lv_istore_n (lv' := [(1, .int ((q_in (fun z => q_br (zv u 3 i) (nI z)) k (q_sum2 (fun y z => q_br (zv u 3 y) (nI z)) i)) + (q_br (zv u 3 i) (nI k)))), (3, .int (nI k)), (2, .int (nI i)), (0, .ref (a 0))]) hx hb dX5_wanted_32 rfl hl (by decide) rfl (fun ls hl => ?_)
          refine lv_iinc (v := nI (k + 1)) (lv' := [(3, .int (nI (k + 1))), (1, .int ((q_in (fun z => q_br (zv u 3 i) (nI z)) k (q_sum2 (fun y z => q_br (zv u 3 y) (nI z)) i)) + (q_br (zv u 3 i) (nI k)))), (2, .int (nI i)), (0, .ref (a 0))]) hx hb dX5_wanted_33 hl (k := 1) rfl (wl_inc k) (by decide) rfl (fun ls hl => ?_)
          refine lv_goto (tgt := 12) hx hb dX5_wanted_36 (by decide) ?_
          exact ih7 (k + 1) (by omega) (by omega) _  (lv_sub hl [0, 2, 1, 3] rfl)
set_option maxHeartbeats 4000000 in
set_option maxRecDepth 100000 in
theorem m_X5_shown (l : Launch) (D : va_G) (cy : Nat → ClassId) (a : Nat → Nat) (u : Nat → Nat → Int32) (j k : Nat) (hj : j < 8) (hk : k < 3) (hs : ¬ zv u 5 2 < 0) : Met l yX5_shown wsX5_shown ({ frames := 2, cells := 0, slots := 0, locals := 44 } : Room) (wl_pc D cy [moW cy a u] [.ref (a 0), .int (nI j), .int (nI k)]) (vp_Si (fun r : Int32 => r = q_shn (zv u) (q_br (zv u 3 j) (nI k)) (q_cw (zv u)))) 0 0 (fun _ => False) := by
  refine wl_ofP (cc := cX5_shown) (maxL := 5) (ret := (some .int)) (by decide) rfl (Nat.le_of_ble_eq_true rfl) ?_
  intro p e s m below meth c ls hx hb hr hts hown hlocks hml hP hK hl
  have hl : lv_has ls 5 [(0, .ref (a 0)), (1, .int (nI j)), (2, .int (nI k))] := hl
  have lkf7 := hts (.fieldLink RX5 7 "WireLampsModel" "z" "[I") (by decide +kernel)
  have in_X5 : ∀ w ∈ u_ws RX5 TX5 13, w ∈ wsX5_shown := by decide +kernel
  refine lv_aload_n hx hb dX5_shown_0 rfl (lv_at hl 0 rfl) ?_
  refine wl_pV (As := []) (rest := []) ⟨hx, hb, hml, hown, hts⟩ (m_X5_wanted l D cy a u ) (cwV 0 hts gX5_shown_X5_wanted rfl rfl rfl (by decide +kernel) ⟨Nat.le_of_ble_eq_true rfl, Nat.le_of_ble_eq_true rfl⟩) hK hP [0] rfl rfl rfl rfl rfl rfl hl.1 rfl (Nat.le_of_ble_eq_true rfl) dX5_shown_1 ⟨Nat.le_of_ble_eq_true rfl, Nat.le_of_ble_eq_true rfl⟩ (fun r1 er1 => ?_)
  have er1 : r1 = q_cw (zv u) := er1
  subst er1
  refine lv_istore_n (lv' := [(3, .int (q_cw (zv u))), (0, .ref (a 0)), (1, .int (nI j)), (2, .int (nI k))]) hx hb dX5_shown_4 rfl hl (by decide) rfl (fun ls hl => ?_)
  refine lv_aload_n hx hb dX5_shown_5 rfl (lv_at hl 1 rfl) ?_
  refine wl_getf (C := RX5) (T := TX5) (N := 13) (ci := 5) (v := .ref (a 1)) hx hb hts in_X5 hown hK hP 0 0 rfl rfl rfl 0 (by decide) lkf7 rfl rfl dX5_shown_6 ?_
  refine lv_bipush (v := 24) hx hb dX5_shown_9 (by decide) ?_
  refine lv_iload_n hx hb dX5_shown_11 rfl (lv_at hl 2 rfl) ?_
  refine lv_iadd hx hb dX5_shown_12 ?_
  refine wl_top (y := nI (24 + j)) (nI_add 24 j) ?_
  refine wl_iald hx hb hK hP 0 1 rfl rfl (24 + j) (by omega) (Nat.le_of_ble_eq_true rfl) dX5_shown_13 ?_
  refine wl_top (y := zv u 3 j) rfl ?_
  refine lv_iload_n hx hb dX5_shown_14 rfl (lv_at hl 3 rfl) ?_
  refine wl_pS (As := [.int (zv u 3 j), .int (nI k)]) (rest := []) ⟨hx, hb, hml, hown, hts⟩ (m_X5_colour l D cy (zv u 3 j) k (by omega)) (va_cwS 2 hts gX5_shown_X5_colour rfl rfl rfl (by decide +kernel) ⟨Nat.le_of_ble_eq_true rfl, Nat.le_of_ble_eq_true rfl⟩) hK hP [] rfl rfl hl.1 rfl (Nat.le_of_ble_eq_true rfl) dX5_shown_15 ⟨Nat.le_of_ble_eq_true rfl, Nat.le_of_ble_eq_true rfl⟩ (fun r2 er2 => ?_)
  have er2 : r2 = q_br (zv u 3 j) (nI k) := er2
  subst er2
  refine lv_istore (lv' := [(4, .int (q_br (zv u 3 j) (nI k))), (3, .int (q_cw (zv u))), (0, .ref (a 0)), (1, .int (nI j)), (2, .int (nI k))]) hx hb dX5_shown_18 hl (by decide) rfl (fun ls hl => ?_)
  refine lv_iload_n hx hb dX5_shown_20 rfl (lv_at hl 1 rfl) ?_
  refine lv_aload_n hx hb dX5_shown_21 rfl (lv_at hl 2 rfl) ?_
  refine wl_getf (C := RX5) (T := TX5) (N := 13) (ci := 5) (v := .ref (a 1)) hx hb hts in_X5 hown hK hP 0 0 rfl rfl rfl 0 (by decide) lkf7 rfl rfl dX5_shown_22 ?_
  refine lv_bipush (v := 42) hx hb dX5_shown_25 (by decide) ?_
  refine wl_iald hx hb hK hP 0 1 rfl rfl 42 (by omega) (Nat.le_of_ble_eq_true rfl) dX5_shown_27 ?_
  refine wl_top (y := zv u 5 2) rfl ?_
  refine lv_icmp_le (tgt := 46) hx hb dX5_shown_28 (by decide) (fun hle => ?_) (fun hle => ?_)
  · refine lv_iload hx hb dX5_shown_46 (lv_at hl 0 rfl) ?_
    exact wl_ri (r := (q_br (zv u 3 j) (nI k))) hx hb hr hlocks (by unfold q_shn; split; rfl; rw [if_neg (Int32.not_lt.mpr hle)]) dX5_shown_48
  · refine lv_iload hx hb dX5_shown_31 (lv_at hl 0 rfl) ?_
    refine lv_aload_n hx hb dX5_shown_33 rfl (lv_at hl 2 rfl) ?_
    refine wl_getf (C := RX5) (T := TX5) (N := 13) (ci := 5) (v := .ref (a 1)) hx hb hts in_X5 hown hK hP 0 0 rfl rfl rfl 0 (by decide) lkf7 rfl rfl dX5_shown_34 ?_
    refine lv_bipush (v := 42) hx hb dX5_shown_37 (by decide) ?_
    refine wl_iald hx hb hK hP 0 1 rfl rfl 42 (by omega) (Nat.le_of_ble_eq_true rfl) dX5_shown_39 ?_
    refine wl_top (y := zv u 5 2) rfl ?_
    refine lv_imul hx hb dX5_shown_40 ?_
    refine lv_iload_n hx hb dX5_shown_41 rfl (lv_at hl 1 rfl) ?_
    refine lv_idiv hx hb dX5_shown_42 (fun h9 => hle (by rw [h9]; exact Int32.not_lt.mp hs)) ?_
    refine lv_goto (tgt := 48) hx hb dX5_shown_43 (by decide) ?_
    exact wl_ri (r := (((q_br (zv u 3 j) (nI k)) * (zv u 5 2)) / (q_cw (zv u)))) hx hb hr hlocks (by unfold q_shn; rw [if_neg (fun h9 => hle (Int32.le_trans h9 (Int32.not_lt.mp hs))), if_pos (Int32.not_le.mp hle)]) dX5_shown_48
set_option maxHeartbeats 4000000 in
set_option maxRecDepth 100000 in
theorem m_X5_allShown (l : Launch) (D : va_G) (cy : Nat → ClassId) (a : Nat → Nat) (u : Nat → Nat → Int32) (hs : ¬ zv u 5 2 < 0) : Met l yX5_allShown wsX5_allShown ({ frames := 3, cells := 0, slots := 0, locals := 68 } : Room) (wl_pc D cy [moW cy a u] [.ref (a 0)]) (vp_Si (fun r : Int32 => r = q_st (zv u))) 0 0 (fun _ => False) := by
  refine wl_ofP (cc := cX5_allShown) (maxL := 4) (ret := (some .int)) (by decide) rfl (Nat.le_of_ble_eq_true rfl) ?_
  intro p e s m below meth c ls hx hb hr hts hown hlocks hml hP hK hl
  have hl : lv_has ls 4 [(0, .ref (a 0))] := hl
  refine lv_iconst (v := 0) hx hb dX5_allShown_0 (by decide) ?_
  refine lv_istore_n (lv' := [(1, .int 0), (0, .ref (a 0))]) hx hb dX5_allShown_1 rfl hl (by decide) rfl (fun ls hl => ?_)
  refine lv_iconst (v := 0) hx hb dX5_allShown_2 (by decide) ?_
  refine lv_istore_n (lv' := [(2, .int 0), (1, .int 0), (0, .ref (a 0))]) hx hb dX5_allShown_3 rfl hl (by decide) rfl (fun ls hl => ?_)
  suffices K1 : ∀ (n2 : Nat) (i : Nat), 8 - i < n2 → (i ≤ 8) → ∀ (ls : Array Slot), lv_has ls 4 [(2, .int (nI i)), (1, .int (q_sum2 (fun y z => q_shn (zv u) (q_br (zv u 3 y) (nI z)) (q_cw (zv u))) i)), (0, .ref (a 0))] → W p l e ({ frames := 3, cells := 0, slots := 0, locals := 68 } : Room) s m ([.ref (a 0)] : List Value).toArray below meth c s.heap [] 0 0 (MQ below (vp_Si (fun r : Int32 => r = q_st (zv u))) ([.ref (a 0)] : List Value).toArray s 0 0 (fun _ => False)) (F0 m 4 ls []) from K1 9 0 (by omega) (by omega) _  (lv_sub hl [0, 1, 2] rfl)
  intro n2
  induction n2 with
  | zero => intro i hm; exact absurd hm (Nat.not_lt_zero _)
  | succ n2 ih3 =>
    intro i hm hi ls  hl
    refine lv_iload_n hx hb dX5_allShown_4 rfl (lv_at hl 0 rfl) ?_
    refine lv_bipush (v := 8) hx hb dX5_allShown_5 (by decide) ?_
    refine wl_icmp_ge (tgt := 38) hx hb i 8 dX5_allShown_7 (by decide) (by omega) (by omega) (fun c4 => ?_) (fun c4 => ?_)
    · obtain rfl : i = 8 := by omega
      refine lv_iload_n hx hb dX5_allShown_38 rfl (lv_at hl 1 rfl) ?_
      exact wl_ri (r := (q_sum2 (fun y z => q_shn (zv u) (q_br (zv u 3 y) (nI z)) (q_cw (zv u))) 8)) hx hb hr hlocks (by rfl) dX5_allShown_39
    · refine lv_iconst (v := 0) hx hb dX5_allShown_10 (by decide) ?_
      refine lv_istore_n (lv' := [(3, .int 0), (2, .int (nI i)), (1, .int (q_sum2 (fun y z => q_shn (zv u) (q_br (zv u 3 y) (nI z)) (q_cw (zv u))) i)), (0, .ref (a 0))]) hx hb dX5_allShown_11 rfl hl (by decide) rfl (fun ls hl => ?_)
      suffices K5 : ∀ (n6 : Nat) (k : Nat), 3 - k < n6 → (k ≤ 3) → ∀ (ls : Array Slot), lv_has ls 4 [(3, .int (nI k)), (2, .int (nI i)), (1, .int (q_in ((fun y z => q_shn (zv u) (q_br (zv u 3 y) (nI z)) (q_cw (zv u))) i) k (q_sum2 (fun y z => q_shn (zv u) (q_br (zv u 3 y) (nI z)) (q_cw (zv u))) i))), (0, .ref (a 0))] → W p l e ({ frames := 3, cells := 0, slots := 0, locals := 68 } : Room) s m ([.ref (a 0)] : List Value).toArray below meth c s.heap [] 0 0 (MQ below (vp_Si (fun r : Int32 => r = q_st (zv u))) ([.ref (a 0)] : List Value).toArray s 0 0 (fun _ => False)) (F0 m 12 ls []) from K5 4 0 (by omega) (by omega) _  (lv_sub hl [0, 1, 2, 3] rfl)
      intro n6
      induction n6 with
      | zero => intro k hm; exact absurd hm (Nat.not_lt_zero _)
      | succ n6 ih7 =>
        intro k hm hk ls  hl
        refine lv_iload_n hx hb dX5_allShown_12 rfl (lv_at hl 0 rfl) ?_
        refine lv_iconst (v := 3) hx hb dX5_allShown_13 (by decide) ?_
        refine wl_icmp_ge (tgt := 32) hx hb k 3 dX5_allShown_14 (by decide) (by omega) (by omega) (fun c8 => ?_) (fun c8 => ?_)
        · obtain rfl : k = 3 := by omega
          refine lv_iinc (v := nI (i + 1)) (lv' := [(2, .int (nI (i + 1))), (3, .int (nI 3)), (1, .int (q_in ((fun y z => q_shn (zv u) (q_br (zv u 3 y) (nI z)) (q_cw (zv u))) i) 3 (q_sum2 (fun y z => q_shn (zv u) (q_br (zv u 3 y) (nI z)) (q_cw (zv u))) i))), (0, .ref (a 0))]) hx hb dX5_allShown_32 hl (k := 1) rfl (wl_inc i) (by decide) rfl (fun ls hl => ?_)
          refine lv_goto (tgt := 4) hx hb dX5_allShown_35 (by decide) ?_
          exact ih3 (i + 1) (by omega) (by omega) _  (lv_sub hl [0, 2, 3] rfl)
        · refine lv_iload_n hx hb dX5_allShown_17 rfl (lv_at hl 2 rfl) ?_
          refine lv_aload_n hx hb dX5_allShown_18 rfl (lv_at hl 3 rfl) ?_
          refine lv_iload_n hx hb dX5_allShown_19 rfl (lv_at hl 1 rfl) ?_
          refine lv_iload_n hx hb dX5_allShown_20 rfl (lv_at hl 0 rfl) ?_
          refine wl_pV (As := [.int (nI i), .int (nI k)]) (rest := [.int (q_in ((fun y z => q_shn (zv u) (q_br (zv u 3 y) (nI z)) (q_cw (zv u))) i) k (q_sum2 (fun y z => q_shn (zv u) (q_br (zv u 3 y) (nI z)) (q_cw (zv u))) i))]) ⟨hx, hb, hml, hown, hts⟩ (m_X5_shown l D cy a u i k (by omega) (by omega) hs) (cwV 2 hts gX5_allShown_X5_shown rfl rfl rfl (by decide +kernel) ⟨Nat.le_of_ble_eq_true rfl, Nat.le_of_ble_eq_true rfl⟩) hK hP [0] rfl rfl rfl rfl rfl rfl hl.1 rfl (Nat.le_of_ble_eq_true rfl) dX5_allShown_21 ⟨Nat.le_of_ble_eq_true rfl, Nat.le_of_ble_eq_true rfl⟩ (fun r9 er9 => ?_)
          have er9 : r9 = q_shn (zv u) (q_br (zv u 3 i) (nI k)) (q_cw (zv u)) := er9
          subst er9
          refine lv_iadd hx hb dX5_allShown_24 ?_
          refine lv_istore_n (lv' := [(1, .int ((q_in ((fun y z => q_shn (zv u) (q_br (zv u 3 y) (nI z)) (q_cw (zv u))) i) k (q_sum2 (fun y z => q_shn (zv u) (q_br (zv u 3 y) (nI z)) (q_cw (zv u))) i)) + (q_shn (zv u) (q_br (zv u 3 i) (nI k)) (q_cw (zv u))))), (3, .int (nI k)), (2, .int (nI i)), (0, .ref (a 0))]) hx hb dX5_allShown_25 rfl hl (by decide) rfl (fun ls hl => ?_)
          refine lv_iinc (v := nI (k + 1)) (lv' := [(3, .int (nI (k + 1))), (1, .int ((q_in ((fun y z => q_shn (zv u) (q_br (zv u 3 y) (nI z)) (q_cw (zv u))) i) k (q_sum2 (fun y z => q_shn (zv u) (q_br (zv u 3 y) (nI z)) (q_cw (zv u))) i)) + (q_shn (zv u) (q_br (zv u 3 i) (nI k)) (q_cw (zv u))))), (2, .int (nI i)), (0, .ref (a 0))]) hx hb dX5_allShown_26 hl (k := 1) rfl (wl_inc k) (by decide) rfl (fun ls hl => ?_)
          refine lv_goto (tgt := 12) hx hb dX5_allShown_29 (by decide) ?_
          exact ih7 (k + 1) (by omega) (by omega) _  (lv_sub hl [0, 2, 1, 3] rfl)
set_option maxHeartbeats 4000000 in
set_option maxRecDepth 100000 in
theorem m_X5_shining (l : Launch) (D : va_G) (cy : Nat → ClassId) (a : Nat → Nat) (u : Nat → Nat → Int32)  : Met l yX5_shining wsX5_shining ({ frames := 0, cells := 0, slots := 0, locals := 0 } : Room) (wl_pc D cy [moW cy a u] [.ref (a 0)]) (vp_Si (fun r : Int32 => r = q_cnt (zv u 3) 8)) 0 0 (fun _ => False) := by
  refine wl_ofP (cc := cX5_shining) (maxL := 3) (ret := (some .int)) (by decide) rfl (Nat.le_of_ble_eq_true rfl) ?_
  intro p e s m below meth c ls hx hb hr hts hown hlocks hml hP hK hl
  have hl : lv_has ls 3 [(0, .ref (a 0))] := hl
  have lkf7 := hts (.fieldLink RX5 7 "WireLampsModel" "z" "[I") (by decide +kernel)
  have in_X5 : ∀ w ∈ u_ws RX5 TX5 13, w ∈ wsX5_shining := by decide +kernel
  refine lv_iconst (v := 0) hx hb dX5_shining_0 (by decide) ?_
  refine lv_istore_n (lv' := [(1, .int 0), (0, .ref (a 0))]) hx hb dX5_shining_1 rfl hl (by decide) rfl (fun ls hl => ?_)
  refine lv_iconst (v := 0) hx hb dX5_shining_2 (by decide) ?_
  refine lv_istore_n (lv' := [(2, .int 0), (1, .int 0), (0, .ref (a 0))]) hx hb dX5_shining_3 rfl hl (by decide) rfl (fun ls hl => ?_)
  suffices K1 : ∀ (n2 : Nat) (i : Nat), 8 - i < n2 → (i ≤ 8) → ∀ (ls : Array Slot), lv_has ls 3 [(2, .int (nI i)), (1, .int (q_cni (zv u 3) i)), (0, .ref (a 0))] → W p l e ({ frames := 0, cells := 0, slots := 0, locals := 0 } : Room) s m ([.ref (a 0)] : List Value).toArray below meth c s.heap [] 0 0 (MQ below (vp_Si (fun r : Int32 => r = q_cnt (zv u 3) 8)) ([.ref (a 0)] : List Value).toArray s 0 0 (fun _ => False)) (F0 m 4 ls []) from K1 9 0 (by omega) (by omega) _  (lv_sub hl [0, 1, 2] rfl)
  intro n2
  induction n2 with
  | zero => intro i hm; exact absurd hm (Nat.not_lt_zero _)
  | succ n2 ih3 =>
    intro i hm hi ls  hl
    refine lv_iload_n hx hb dX5_shining_4 rfl (lv_at hl 0 rfl) ?_
    refine lv_bipush (v := 8) hx hb dX5_shining_5 (by decide) ?_
    refine wl_icmp_ge (tgt := 36) hx hb i 8 dX5_shining_7 (by decide) (by omega) (by omega) (fun c4 => ?_) (fun c4 => ?_)
    · refine lv_iload_n hx hb dX5_shining_36 rfl (lv_at hl 1 rfl) ?_
      exact wl_ri (r := (q_cni (zv u 3) i)) hx hb hr hlocks (by obtain rfl : i = 8 := (by omega); exact q_cni_eq _ _) dX5_shining_37
    · refine lv_iload_n hx hb dX5_shining_10 rfl (lv_at hl 1 rfl) ?_
      refine lv_aload_n hx hb dX5_shining_11 rfl (lv_at hl 2 rfl) ?_
      refine wl_getf (C := RX5) (T := TX5) (N := 13) (ci := 5) (v := .ref (a 1)) hx hb hts in_X5 hown hK hP 0 0 rfl rfl rfl 0 (by decide) lkf7 rfl rfl dX5_shining_12 ?_
      refine lv_bipush (v := 24) hx hb dX5_shining_15 (by decide) ?_
      refine lv_iload_n hx hb dX5_shining_17 rfl (lv_at hl 0 rfl) ?_
      refine lv_iadd hx hb dX5_shining_18 ?_
      refine wl_top (y := nI (24 + i)) (nI_add 24 i) ?_
      refine wl_iald hx hb hK hP 0 1 rfl rfl (24 + i) (by omega) (Nat.le_of_ble_eq_true rfl) dX5_shining_19 ?_
      refine wl_top (y := zv u 3 i) rfl ?_
      have K7 : ∀ (ls : Array Slot) (v6 : Int32), v6 = (if (zv u 3 i) = 0 then 0 else 1) → lv_has ls 3 [(2, .int (nI i)), (0, .ref (a 0))] → W p l e ({ frames := 0, cells := 0, slots := 0, locals := 0 } : Room) s m ([.ref (a 0)] : List Value).toArray below meth c s.heap [] 0 0 (MQ below (vp_Si (fun r : Int32 => r = q_cnt (zv u 3) 8)) ([.ref (a 0)] : List Value).toArray s 0 0 (fun _ => False)) (F0 m 28 ls [.int v6, .int (q_cni (zv u 3) i)]) := by
        intro ls v6 ev6  hl
        refine lv_iadd hx hb dX5_shining_28 ?_
        refine lv_istore_n (lv' := [(1, .int ((q_cni (zv u 3) i) + v6)), (2, .int (nI i)), (0, .ref (a 0))]) hx hb dX5_shining_29 rfl hl (by decide) rfl (fun ls hl => ?_)
        refine lv_iinc (v := nI (i + 1)) (lv' := [(2, .int (nI (i + 1))), (1, .int ((q_cni (zv u 3) i) + v6)), (0, .ref (a 0))]) hx hb dX5_shining_30 hl (k := 1) rfl (wl_inc i) (by decide) rfl (fun ls hl => ?_)
        refine lv_goto (tgt := 4) hx hb dX5_shining_33 (by decide) ?_
        subst ev6
        exact ih3 (i + 1) (by omega) (by omega) _  (lv_sub hl [0, 1, 2] rfl)
      refine lv_if_ne (tgt := 27) hx hb dX5_shining_20 (by decide) (fun c5 => ?_) (fun c5 => ?_)
      · refine lv_iconst (v := 1) hx hb dX5_shining_27 (by decide) ?_
        exact K7 _ 1 (by rw [if_neg c5]) (lv_sub hl [0, 2] rfl)
      · refine lv_iconst (v := 0) hx hb dX5_shining_23 (by decide) ?_
        refine lv_goto (tgt := 28) hx hb dX5_shining_24 (by decide) ?_
        exact K7 _ 0 (by rw [if_pos c5]) (lv_sub hl [0, 2] rfl)
set_option maxHeartbeats 4000000 in
set_option maxRecDepth 100000 in
theorem m_X5_aboutLamp (l : Launch) (D : va_G) (cy : Nat → ClassId) (a : Nat → Nat) (u : Nat → Nat → Int32) (i k : Nat) (hi : i < 8) (hk : k < 8) (hs : ¬ zv u 5 2 < 0) : Met l yX5_aboutLamp wsX5_aboutLamp ({ frames := 3, cells := 0, slots := 0, locals := 68 } : Room) (wl_pc D cy [moW cy a u] [.ref (a 0), .int (nI i), .int (nI k)]) (vp_Si (fun r : Int32 => r = q_lo (zv u) i k)) 0 0 (fun _ => False) := by
  refine wl_ofP (cc := cX5_aboutLamp) (maxL := 3) (ret := (some .int)) (by decide) rfl (Nat.le_of_ble_eq_true rfl) ?_
  intro p e s m below meth c ls hx hb hr hts hown hlocks hml hP hK hl
  have hl : lv_has ls 3 [(0, .ref (a 0)), (1, .int (nI i)), (2, .int (nI k))] := hl
  have lkf7 := hts (.fieldLink RX5 7 "WireLampsModel" "z" "[I") (by decide +kernel)
  have in_X5 : ∀ w ∈ u_ws RX5 TX5 13, w ∈ wsX5_aboutLamp := by decide +kernel
  rcases (show k = 0 ∨ k = 1 ∨ k = 2 ∨ k = 3 ∨ k = 4 ∨ k = 5 ∨ k = 6 ∨ k = 7 from by omega) with rfl | rfl | rfl | rfl | rfl | rfl | rfl | rfl
  · refine lv_iload_n hx hb dX5_aboutLamp_0 rfl (lv_at hl 2 rfl) ?_
    refine lv_iconst (v := 4) hx hb dX5_aboutLamp_1 (by decide) ?_
    refine wl_icmp_ge (tgt := 19) hx hb 0 4 dX5_aboutLamp_2 (by decide) (by omega) (by omega) (fun c1 => absurd c1 (by decide)) (fun c1 => ?_)
    refine lv_aload_n hx hb dX5_aboutLamp_5 rfl (lv_at hl 0 rfl) ?_
    refine wl_getf (C := RX5) (T := TX5) (N := 13) (ci := 5) (v := .ref (a 1)) hx hb hts in_X5 hown hK hP 0 0 rfl rfl rfl 0 (by decide) lkf7 rfl rfl dX5_aboutLamp_6 ?_
    refine lv_bipush (v := 8) hx hb dX5_aboutLamp_9 (by decide) ?_
    refine lv_iload_n hx hb dX5_aboutLamp_11 rfl (lv_at hl 2 rfl) ?_
    refine lv_imul hx hb dX5_aboutLamp_12 ?_
    refine wl_top (y := nI 0) (pk_mul 8 0) ?_
    refine lv_iload_n hx hb dX5_aboutLamp_13 rfl (lv_at hl 1 rfl) ?_
    refine lv_iadd hx hb dX5_aboutLamp_14 ?_
    refine wl_top (y := nI (0 + i)) (nI_add 0 i) ?_
    refine wl_iald hx hb hK hP 0 1 rfl rfl (0 + i) (by omega) (Nat.le_of_ble_eq_true rfl) dX5_aboutLamp_15 ?_
    refine wl_top (y := zv u 0 i) rfl ?_
    refine lv_goto (tgt := 45) hx hb dX5_aboutLamp_16 (by decide) ?_
    exact wl_ri (r := (zv u 0 i)) hx hb hr hlocks (by rfl) dX5_aboutLamp_45
  · refine lv_iload_n hx hb dX5_aboutLamp_0 rfl (lv_at hl 2 rfl) ?_
    refine lv_iconst (v := 4) hx hb dX5_aboutLamp_1 (by decide) ?_
    refine wl_icmp_ge (tgt := 19) hx hb 1 4 dX5_aboutLamp_2 (by decide) (by omega) (by omega) (fun c2 => absurd c2 (by decide)) (fun c2 => ?_)
    refine lv_aload_n hx hb dX5_aboutLamp_5 rfl (lv_at hl 0 rfl) ?_
    refine wl_getf (C := RX5) (T := TX5) (N := 13) (ci := 5) (v := .ref (a 1)) hx hb hts in_X5 hown hK hP 0 0 rfl rfl rfl 0 (by decide) lkf7 rfl rfl dX5_aboutLamp_6 ?_
    refine lv_bipush (v := 8) hx hb dX5_aboutLamp_9 (by decide) ?_
    refine lv_iload_n hx hb dX5_aboutLamp_11 rfl (lv_at hl 2 rfl) ?_
    refine lv_imul hx hb dX5_aboutLamp_12 ?_
    refine wl_top (y := nI 8) (pk_mul 8 1) ?_
    refine lv_iload_n hx hb dX5_aboutLamp_13 rfl (lv_at hl 1 rfl) ?_
    refine lv_iadd hx hb dX5_aboutLamp_14 ?_
    refine wl_top (y := nI (8 + i)) (nI_add 8 i) ?_
    refine wl_iald hx hb hK hP 0 1 rfl rfl (8 + i) (by omega) (Nat.le_of_ble_eq_true rfl) dX5_aboutLamp_15 ?_
    refine wl_top (y := zv u 1 i) rfl ?_
    refine lv_goto (tgt := 45) hx hb dX5_aboutLamp_16 (by decide) ?_
    exact wl_ri (r := (zv u 1 i)) hx hb hr hlocks (by rfl) dX5_aboutLamp_45
  · refine lv_iload_n hx hb dX5_aboutLamp_0 rfl (lv_at hl 2 rfl) ?_
    refine lv_iconst (v := 4) hx hb dX5_aboutLamp_1 (by decide) ?_
    refine wl_icmp_ge (tgt := 19) hx hb 2 4 dX5_aboutLamp_2 (by decide) (by omega) (by omega) (fun c3 => absurd c3 (by decide)) (fun c3 => ?_)
    refine lv_aload_n hx hb dX5_aboutLamp_5 rfl (lv_at hl 0 rfl) ?_
    refine wl_getf (C := RX5) (T := TX5) (N := 13) (ci := 5) (v := .ref (a 1)) hx hb hts in_X5 hown hK hP 0 0 rfl rfl rfl 0 (by decide) lkf7 rfl rfl dX5_aboutLamp_6 ?_
    refine lv_bipush (v := 8) hx hb dX5_aboutLamp_9 (by decide) ?_
    refine lv_iload_n hx hb dX5_aboutLamp_11 rfl (lv_at hl 2 rfl) ?_
    refine lv_imul hx hb dX5_aboutLamp_12 ?_
    refine wl_top (y := nI 16) (pk_mul 8 2) ?_
    refine lv_iload_n hx hb dX5_aboutLamp_13 rfl (lv_at hl 1 rfl) ?_
    refine lv_iadd hx hb dX5_aboutLamp_14 ?_
    refine wl_top (y := nI (16 + i)) (nI_add 16 i) ?_
    refine wl_iald hx hb hK hP 0 1 rfl rfl (16 + i) (by omega) (Nat.le_of_ble_eq_true rfl) dX5_aboutLamp_15 ?_
    refine wl_top (y := zv u 2 i) rfl ?_
    refine lv_goto (tgt := 45) hx hb dX5_aboutLamp_16 (by decide) ?_
    exact wl_ri (r := (zv u 2 i)) hx hb hr hlocks (by rfl) dX5_aboutLamp_45
  · refine lv_iload_n hx hb dX5_aboutLamp_0 rfl (lv_at hl 2 rfl) ?_
    refine lv_iconst (v := 4) hx hb dX5_aboutLamp_1 (by decide) ?_
    refine wl_icmp_ge (tgt := 19) hx hb 3 4 dX5_aboutLamp_2 (by decide) (by omega) (by omega) (fun c4 => absurd c4 (by decide)) (fun c4 => ?_)
    refine lv_aload_n hx hb dX5_aboutLamp_5 rfl (lv_at hl 0 rfl) ?_
    refine wl_getf (C := RX5) (T := TX5) (N := 13) (ci := 5) (v := .ref (a 1)) hx hb hts in_X5 hown hK hP 0 0 rfl rfl rfl 0 (by decide) lkf7 rfl rfl dX5_aboutLamp_6 ?_
    refine lv_bipush (v := 8) hx hb dX5_aboutLamp_9 (by decide) ?_
    refine lv_iload_n hx hb dX5_aboutLamp_11 rfl (lv_at hl 2 rfl) ?_
    refine lv_imul hx hb dX5_aboutLamp_12 ?_
    refine wl_top (y := nI 24) (pk_mul 8 3) ?_
    refine lv_iload_n hx hb dX5_aboutLamp_13 rfl (lv_at hl 1 rfl) ?_
    refine lv_iadd hx hb dX5_aboutLamp_14 ?_
    refine wl_top (y := nI (24 + i)) (nI_add 24 i) ?_
    refine wl_iald hx hb hK hP 0 1 rfl rfl (24 + i) (by omega) (Nat.le_of_ble_eq_true rfl) dX5_aboutLamp_15 ?_
    refine wl_top (y := zv u 3 i) rfl ?_
    refine lv_goto (tgt := 45) hx hb dX5_aboutLamp_16 (by decide) ?_
    exact wl_ri (r := (zv u 3 i)) hx hb hr hlocks (by rfl) dX5_aboutLamp_45
  · refine lv_iload_n hx hb dX5_aboutLamp_0 rfl (lv_at hl 2 rfl) ?_
    refine lv_iconst (v := 4) hx hb dX5_aboutLamp_1 (by decide) ?_
    refine wl_icmp_ge (tgt := 19) hx hb 4 4 dX5_aboutLamp_2 (by decide) (by omega) (by omega) (fun c5 => ?_) (fun c5 => absurd c5 (by decide))
    refine lv_iload_n hx hb dX5_aboutLamp_19 rfl (lv_at hl 2 rfl) ?_
    refine lv_bipush (v := 7) hx hb dX5_aboutLamp_20 (by decide) ?_
    refine wl_icmp_ge (tgt := 36) hx hb 4 7 dX5_aboutLamp_22 (by decide) (by omega) (by omega) (fun c6 => absurd c6 (by decide)) (fun c6 => ?_)
    refine lv_aload_n hx hb dX5_aboutLamp_25 rfl (lv_at hl 0 rfl) ?_
    refine lv_iload_n hx hb dX5_aboutLamp_26 rfl (lv_at hl 1 rfl) ?_
    refine lv_iload_n hx hb dX5_aboutLamp_27 rfl (lv_at hl 2 rfl) ?_
    refine lv_iconst (v := 4) hx hb dX5_aboutLamp_28 (by decide) ?_
    refine lv_isub hx hb dX5_aboutLamp_29 ?_
    refine wl_top (y := nI 0) (pk_sub (a := 4) (b := 4) (by omega)) ?_
    refine wl_pV (As := [.int (nI i), .int (nI 0)]) (rest := []) ⟨hx, hb, hml, hown, hts⟩ (m_X5_shown l D cy a u i 0 (by omega) (by omega) hs) (cwV 2 hts gX5_aboutLamp_X5_shown rfl rfl rfl (by decide +kernel) ⟨Nat.le_of_ble_eq_true rfl, Nat.le_of_ble_eq_true rfl⟩) hK hP [0] rfl rfl rfl rfl rfl rfl hl.1 rfl (Nat.le_of_ble_eq_true rfl) dX5_aboutLamp_30 ⟨Nat.le_of_ble_eq_true rfl, Nat.le_of_ble_eq_true rfl⟩ (fun r7 er7 => ?_)
    have er7 : r7 = q_shn (zv u) (q_br (zv u 3 i) (nI 0)) (q_cw (zv u)) := er7
    subst er7
    refine lv_goto (tgt := 45) hx hb dX5_aboutLamp_33 (by decide) ?_
    exact wl_ri (r := (q_shn (zv u) (q_br (zv u 3 i) (nI 0)) (q_cw (zv u)))) hx hb hr hlocks (by rfl) dX5_aboutLamp_45
  · refine lv_iload_n hx hb dX5_aboutLamp_0 rfl (lv_at hl 2 rfl) ?_
    refine lv_iconst (v := 4) hx hb dX5_aboutLamp_1 (by decide) ?_
    refine wl_icmp_ge (tgt := 19) hx hb 5 4 dX5_aboutLamp_2 (by decide) (by omega) (by omega) (fun c8 => ?_) (fun c8 => absurd c8 (by decide))
    refine lv_iload_n hx hb dX5_aboutLamp_19 rfl (lv_at hl 2 rfl) ?_
    refine lv_bipush (v := 7) hx hb dX5_aboutLamp_20 (by decide) ?_
    refine wl_icmp_ge (tgt := 36) hx hb 5 7 dX5_aboutLamp_22 (by decide) (by omega) (by omega) (fun c9 => absurd c9 (by decide)) (fun c9 => ?_)
    refine lv_aload_n hx hb dX5_aboutLamp_25 rfl (lv_at hl 0 rfl) ?_
    refine lv_iload_n hx hb dX5_aboutLamp_26 rfl (lv_at hl 1 rfl) ?_
    refine lv_iload_n hx hb dX5_aboutLamp_27 rfl (lv_at hl 2 rfl) ?_
    refine lv_iconst (v := 4) hx hb dX5_aboutLamp_28 (by decide) ?_
    refine lv_isub hx hb dX5_aboutLamp_29 ?_
    refine wl_top (y := nI 1) (pk_sub (a := 5) (b := 4) (by omega)) ?_
    refine wl_pV (As := [.int (nI i), .int (nI 1)]) (rest := []) ⟨hx, hb, hml, hown, hts⟩ (m_X5_shown l D cy a u i 1 (by omega) (by omega) hs) (cwV 2 hts gX5_aboutLamp_X5_shown rfl rfl rfl (by decide +kernel) ⟨Nat.le_of_ble_eq_true rfl, Nat.le_of_ble_eq_true rfl⟩) hK hP [0] rfl rfl rfl rfl rfl rfl hl.1 rfl (Nat.le_of_ble_eq_true rfl) dX5_aboutLamp_30 ⟨Nat.le_of_ble_eq_true rfl, Nat.le_of_ble_eq_true rfl⟩ (fun r10 er10 => ?_)
    have er10 : r10 = q_shn (zv u) (q_br (zv u 3 i) (nI 1)) (q_cw (zv u)) := er10
    subst er10
    refine lv_goto (tgt := 45) hx hb dX5_aboutLamp_33 (by decide) ?_
    exact wl_ri (r := (q_shn (zv u) (q_br (zv u 3 i) (nI 1)) (q_cw (zv u)))) hx hb hr hlocks (by rfl) dX5_aboutLamp_45
  · refine lv_iload_n hx hb dX5_aboutLamp_0 rfl (lv_at hl 2 rfl) ?_
    refine lv_iconst (v := 4) hx hb dX5_aboutLamp_1 (by decide) ?_
    refine wl_icmp_ge (tgt := 19) hx hb 6 4 dX5_aboutLamp_2 (by decide) (by omega) (by omega) (fun c11 => ?_) (fun c11 => absurd c11 (by decide))
    refine lv_iload_n hx hb dX5_aboutLamp_19 rfl (lv_at hl 2 rfl) ?_
    refine lv_bipush (v := 7) hx hb dX5_aboutLamp_20 (by decide) ?_
    refine wl_icmp_ge (tgt := 36) hx hb 6 7 dX5_aboutLamp_22 (by decide) (by omega) (by omega) (fun c12 => absurd c12 (by decide)) (fun c12 => ?_)
    refine lv_aload_n hx hb dX5_aboutLamp_25 rfl (lv_at hl 0 rfl) ?_
    refine lv_iload_n hx hb dX5_aboutLamp_26 rfl (lv_at hl 1 rfl) ?_
    refine lv_iload_n hx hb dX5_aboutLamp_27 rfl (lv_at hl 2 rfl) ?_
    refine lv_iconst (v := 4) hx hb dX5_aboutLamp_28 (by decide) ?_
    refine lv_isub hx hb dX5_aboutLamp_29 ?_
    refine wl_top (y := nI 2) (pk_sub (a := 6) (b := 4) (by omega)) ?_
    refine wl_pV (As := [.int (nI i), .int (nI 2)]) (rest := []) ⟨hx, hb, hml, hown, hts⟩ (m_X5_shown l D cy a u i 2 (by omega) (by omega) hs) (cwV 2 hts gX5_aboutLamp_X5_shown rfl rfl rfl (by decide +kernel) ⟨Nat.le_of_ble_eq_true rfl, Nat.le_of_ble_eq_true rfl⟩) hK hP [0] rfl rfl rfl rfl rfl rfl hl.1 rfl (Nat.le_of_ble_eq_true rfl) dX5_aboutLamp_30 ⟨Nat.le_of_ble_eq_true rfl, Nat.le_of_ble_eq_true rfl⟩ (fun r13 er13 => ?_)
    have er13 : r13 = q_shn (zv u) (q_br (zv u 3 i) (nI 2)) (q_cw (zv u)) := er13
    subst er13
    refine lv_goto (tgt := 45) hx hb dX5_aboutLamp_33 (by decide) ?_
    exact wl_ri (r := (q_shn (zv u) (q_br (zv u 3 i) (nI 2)) (q_cw (zv u)))) hx hb hr hlocks (by rfl) dX5_aboutLamp_45
  · refine lv_iload_n hx hb dX5_aboutLamp_0 rfl (lv_at hl 2 rfl) ?_
    refine lv_iconst (v := 4) hx hb dX5_aboutLamp_1 (by decide) ?_
    refine wl_icmp_ge (tgt := 19) hx hb 7 4 dX5_aboutLamp_2 (by decide) (by omega) (by omega) (fun c14 => ?_) (fun c14 => absurd c14 (by decide))
    refine lv_iload_n hx hb dX5_aboutLamp_19 rfl (lv_at hl 2 rfl) ?_
    refine lv_bipush (v := 7) hx hb dX5_aboutLamp_20 (by decide) ?_
    refine wl_icmp_ge (tgt := 36) hx hb 7 7 dX5_aboutLamp_22 (by decide) (by omega) (by omega) (fun c15 => ?_) (fun c15 => absurd c15 (by decide))
    refine lv_aload_n hx hb dX5_aboutLamp_36 rfl (lv_at hl 0 rfl) ?_
    refine wl_getf (C := RX5) (T := TX5) (N := 13) (ci := 5) (v := .ref (a 1)) hx hb hts in_X5 hown hK hP 0 0 rfl rfl rfl 0 (by decide) lkf7 rfl rfl dX5_aboutLamp_37 ?_
    refine lv_bipush (v := 32) hx hb dX5_aboutLamp_40 (by decide) ?_
    refine lv_iload_n hx hb dX5_aboutLamp_42 rfl (lv_at hl 1 rfl) ?_
    refine lv_iadd hx hb dX5_aboutLamp_43 ?_
    refine wl_top (y := nI (32 + i)) (nI_add 32 i) ?_
    refine wl_iald hx hb hK hP 0 1 rfl rfl (32 + i) (by omega) (Nat.le_of_ble_eq_true rfl) dX5_aboutLamp_44 ?_
    refine wl_top (y := zv u 4 i) rfl ?_
    exact wl_ri (r := (zv u 4 i)) hx hb hr hlocks (by rfl) dX5_aboutLamp_45
set_option maxHeartbeats 4000000 in
set_option maxRecDepth 100000 in
theorem m_X5_number (l : Launch) (D : va_G) (cy : Nat → ClassId) (a : Nat → Nat) (u : Nat → Nat → Int32) (k : Nat) (hk : k < 11) (hs : ¬ zv u 5 2 < 0) : Met l yX5_number wsX5_number ({ frames := 4, cells := 0, slots := 0, locals := 91 } : Room) (wl_pc D cy [moW cy a u] [.ref (a 0), .int (nI k)]) (vp_Si (fun r : Int32 => r = q_nm u k)) 0 0 (fun _ => False) := by
  refine wl_ofP (cc := cX5_number) (maxL := 2) (ret := (some .int)) (by decide) rfl (Nat.le_of_ble_eq_true rfl) ?_
  intro p e s m below meth c ls hx hb hr hts hown hlocks hml hP hK hl
  have hl : lv_has ls 2 [(0, .ref (a 0)), (1, .int (nI k))] := hl
  have lkf40 := hts (.fieldLink RX5 40 "WireLampsModel" "savedMany" "I") (by decide +kernel)
  have lkf7 := hts (.fieldLink RX5 7 "WireLampsModel" "z" "[I") (by decide +kernel)
  have in_X5 : ∀ w ∈ u_ws RX5 TX5 13, w ∈ wsX5_number := by decide +kernel
  refine lv_iload_n hx hb dX5_number_0 rfl (lv_at hl 1 rfl) ?_
  rcases (show k = 0 ∨ k = 1 ∨ k = 2 ∨ k = 3 ∨ k = 4 ∨ k = 5 ∨ k = 6 ∨ k = 7 ∨ k = 8 ∨ k = 9 ∨ k = 10 from by omega) with rfl | rfl | rfl | rfl | rfl | rfl | rfl | rfl | rfl | rfl | rfl
  · refine lv_tableIn (off := 55) (tgt := 56) hx hb dX5_number_1 (by decide) (by decide) rfl (by decide) ?_
    refine lv_aload_n hx hb dX5_number_56 rfl (lv_at hl 0 rfl) ?_
    refine wl_getf (C := RX5) (T := TX5) (N := 13) (ci := 5) (v := .ref (a 1)) hx hb hts in_X5 hown hK hP 0 0 rfl rfl rfl 0 (by decide) lkf7 rfl rfl dX5_number_57 ?_
    refine lv_bipush (v := 49) hx hb dX5_number_60 (by decide) ?_
    refine wl_iald hx hb hK hP 0 1 rfl rfl 49 (by omega) (Nat.le_of_ble_eq_true rfl) dX5_number_62 ?_
    refine wl_top (y := zv u 7 0) rfl ?_
    exact wl_ri (r := (zv u 7 0)) hx hb hr hlocks (by rfl) dX5_number_63
  · refine lv_tableIn (off := 63) (tgt := 64) hx hb dX5_number_1 (by decide) (by decide) rfl (by decide) ?_
    refine lv_aload_n hx hb dX5_number_64 rfl (lv_at hl 0 rfl) ?_
    refine wl_getf (C := RX5) (T := TX5) (N := 13) (ci := 5) (v := .ref (a 1)) hx hb hts in_X5 hown hK hP 0 0 rfl rfl rfl 0 (by decide) lkf7 rfl rfl dX5_number_65 ?_
    refine lv_bipush (v := 43) hx hb dX5_number_68 (by decide) ?_
    refine lv_iload_n hx hb dX5_number_70 rfl (lv_at hl 1 rfl) ?_
    refine lv_iadd hx hb dX5_number_71 ?_
    refine wl_top (y := nI 44) (nI_add 43 1) ?_
    refine lv_iconst (v := 1) hx hb dX5_number_72 (by decide) ?_
    refine lv_isub hx hb dX5_number_73 ?_
    refine wl_top (y := nI 43) (pk_sub (a := 44) (b := 1) (by omega)) ?_
    refine wl_iald hx hb hK hP 0 1 rfl rfl 43 (by omega) (Nat.le_of_ble_eq_true rfl) dX5_number_74 ?_
    refine wl_top (y := zv u 7 1) rfl ?_
    exact wl_ri (r := (zv u 7 1)) hx hb hr hlocks (by rfl) dX5_number_75
  · refine lv_tableIn (off := 63) (tgt := 64) hx hb dX5_number_1 (by decide) (by decide) rfl (by decide) ?_
    refine lv_aload_n hx hb dX5_number_64 rfl (lv_at hl 0 rfl) ?_
    refine wl_getf (C := RX5) (T := TX5) (N := 13) (ci := 5) (v := .ref (a 1)) hx hb hts in_X5 hown hK hP 0 0 rfl rfl rfl 0 (by decide) lkf7 rfl rfl dX5_number_65 ?_
    refine lv_bipush (v := 43) hx hb dX5_number_68 (by decide) ?_
    refine lv_iload_n hx hb dX5_number_70 rfl (lv_at hl 1 rfl) ?_
    refine lv_iadd hx hb dX5_number_71 ?_
    refine wl_top (y := nI 45) (nI_add 43 2) ?_
    refine lv_iconst (v := 1) hx hb dX5_number_72 (by decide) ?_
    refine lv_isub hx hb dX5_number_73 ?_
    refine wl_top (y := nI 44) (pk_sub (a := 45) (b := 1) (by omega)) ?_
    refine wl_iald hx hb hK hP 0 1 rfl rfl 44 (by omega) (Nat.le_of_ble_eq_true rfl) dX5_number_74 ?_
    exact wl_ri (r := (u 0 44)) hx hb hr hlocks (by rfl) dX5_number_75
  · refine lv_tableIn (off := 63) (tgt := 64) hx hb dX5_number_1 (by decide) (by decide) rfl (by decide) ?_
    refine lv_aload_n hx hb dX5_number_64 rfl (lv_at hl 0 rfl) ?_
    refine wl_getf (C := RX5) (T := TX5) (N := 13) (ci := 5) (v := .ref (a 1)) hx hb hts in_X5 hown hK hP 0 0 rfl rfl rfl 0 (by decide) lkf7 rfl rfl dX5_number_65 ?_
    refine lv_bipush (v := 43) hx hb dX5_number_68 (by decide) ?_
    refine lv_iload_n hx hb dX5_number_70 rfl (lv_at hl 1 rfl) ?_
    refine lv_iadd hx hb dX5_number_71 ?_
    refine wl_top (y := nI 46) (nI_add 43 3) ?_
    refine lv_iconst (v := 1) hx hb dX5_number_72 (by decide) ?_
    refine lv_isub hx hb dX5_number_73 ?_
    refine wl_top (y := nI 45) (pk_sub (a := 46) (b := 1) (by omega)) ?_
    refine wl_iald hx hb hK hP 0 1 rfl rfl 45 (by omega) (Nat.le_of_ble_eq_true rfl) dX5_number_74 ?_
    refine wl_top (y := zv u 7 2) rfl ?_
    exact wl_ri (r := (zv u 7 2)) hx hb hr hlocks (by rfl) dX5_number_75
  · refine lv_tableIn (off := 63) (tgt := 64) hx hb dX5_number_1 (by decide) (by decide) rfl (by decide) ?_
    refine lv_aload_n hx hb dX5_number_64 rfl (lv_at hl 0 rfl) ?_
    refine wl_getf (C := RX5) (T := TX5) (N := 13) (ci := 5) (v := .ref (a 1)) hx hb hts in_X5 hown hK hP 0 0 rfl rfl rfl 0 (by decide) lkf7 rfl rfl dX5_number_65 ?_
    refine lv_bipush (v := 43) hx hb dX5_number_68 (by decide) ?_
    refine lv_iload_n hx hb dX5_number_70 rfl (lv_at hl 1 rfl) ?_
    refine lv_iadd hx hb dX5_number_71 ?_
    refine wl_top (y := nI 47) (nI_add 43 4) ?_
    refine lv_iconst (v := 1) hx hb dX5_number_72 (by decide) ?_
    refine lv_isub hx hb dX5_number_73 ?_
    refine wl_top (y := nI 46) (pk_sub (a := 47) (b := 1) (by omega)) ?_
    refine wl_iald hx hb hK hP 0 1 rfl rfl 46 (by omega) (Nat.le_of_ble_eq_true rfl) dX5_number_74 ?_
    refine wl_top (y := zv u 7 3) rfl ?_
    exact wl_ri (r := (zv u 7 3)) hx hb hr hlocks (by rfl) dX5_number_75
  · refine lv_tableIn (off := 63) (tgt := 64) hx hb dX5_number_1 (by decide) (by decide) rfl (by decide) ?_
    refine lv_aload_n hx hb dX5_number_64 rfl (lv_at hl 0 rfl) ?_
    refine wl_getf (C := RX5) (T := TX5) (N := 13) (ci := 5) (v := .ref (a 1)) hx hb hts in_X5 hown hK hP 0 0 rfl rfl rfl 0 (by decide) lkf7 rfl rfl dX5_number_65 ?_
    refine lv_bipush (v := 43) hx hb dX5_number_68 (by decide) ?_
    refine lv_iload_n hx hb dX5_number_70 rfl (lv_at hl 1 rfl) ?_
    refine lv_iadd hx hb dX5_number_71 ?_
    refine wl_top (y := nI 48) (nI_add 43 5) ?_
    refine lv_iconst (v := 1) hx hb dX5_number_72 (by decide) ?_
    refine lv_isub hx hb dX5_number_73 ?_
    refine wl_top (y := nI 47) (pk_sub (a := 48) (b := 1) (by omega)) ?_
    refine wl_iald hx hb hK hP 0 1 rfl rfl 47 (by omega) (Nat.le_of_ble_eq_true rfl) dX5_number_74 ?_
    refine wl_top (y := zv u 7 4) rfl ?_
    exact wl_ri (r := (zv u 7 4)) hx hb hr hlocks (by rfl) dX5_number_75
  · refine lv_tableIn (off := 75) (tgt := 76) hx hb dX5_number_1 (by decide) (by decide) rfl (by decide) ?_
    refine lv_aload_n hx hb dX5_number_76 rfl (lv_at hl 0 rfl) ?_
    refine wl_pV (As := []) (rest := []) ⟨hx, hb, hml, hown, hts⟩ (m_X5_wanted l D cy a u ) (cwV 0 hts gX5_number_X5_wanted rfl rfl rfl (by decide +kernel) ⟨Nat.le_of_ble_eq_true rfl, Nat.le_of_ble_eq_true rfl⟩) hK hP [0] rfl rfl rfl rfl rfl rfl hl.1 rfl (Nat.le_of_ble_eq_true rfl) dX5_number_77 ⟨Nat.le_of_ble_eq_true rfl, Nat.le_of_ble_eq_true rfl⟩ (fun r1 er1 => ?_)
    have er1 : r1 = q_cw (zv u) := er1
    subst er1
    exact wl_ri (r := (q_cw (zv u))) hx hb hr hlocks (by rfl) dX5_number_80
  · refine lv_tableIn (off := 80) (tgt := 81) hx hb dX5_number_1 (by decide) (by decide) rfl (by decide) ?_
    refine lv_aload_n hx hb dX5_number_81 rfl (lv_at hl 0 rfl) ?_
    refine wl_pV (As := []) (rest := []) ⟨hx, hb, hml, hown, hts⟩ (m_X5_allShown l D cy a u hs) (cwV 0 hts gX5_number_X5_allShown rfl rfl rfl (by decide +kernel) ⟨Nat.le_of_ble_eq_true rfl, Nat.le_of_ble_eq_true rfl⟩) hK hP [0] rfl rfl rfl rfl rfl rfl hl.1 rfl (Nat.le_of_ble_eq_true rfl) dX5_number_82 ⟨Nat.le_of_ble_eq_true rfl, Nat.le_of_ble_eq_true rfl⟩ (fun r2 er2 => ?_)
    have er2 : r2 = q_st (zv u) := er2
    subst er2
    exact wl_ri (r := (q_st (zv u))) hx hb hr hlocks (by rfl) dX5_number_85
  · refine lv_tableIn (off := 85) (tgt := 86) hx hb dX5_number_1 (by decide) (by decide) rfl (by decide) ?_
    refine lv_aload_n hx hb dX5_number_86 rfl (lv_at hl 0 rfl) ?_
    refine wl_pV (As := []) (rest := []) ⟨hx, hb, hml, hown, hts⟩ (m_X5_shining l D cy a u ) (cwV 0 hts gX5_number_X5_shining rfl rfl rfl (by decide +kernel) ⟨Nat.le_of_ble_eq_true rfl, Nat.le_of_ble_eq_true rfl⟩) hK hP [0] rfl rfl rfl rfl rfl rfl hl.1 rfl (Nat.le_of_ble_eq_true rfl) dX5_number_87 ⟨Nat.le_of_ble_eq_true rfl, Nat.le_of_ble_eq_true rfl⟩ (fun r3 er3 => ?_)
    have er3 : r3 = q_cnt (zv u 3) 8 := er3
    subst er3
    exact wl_ri (r := (q_cnt (zv u 3) 8)) hx hb hr hlocks (by rfl) dX5_number_90
  · refine lv_tableIn (off := 90) (tgt := 91) hx hb dX5_number_1 (by decide) (by decide) rfl (by decide) ?_
    refine lv_aload_n hx hb dX5_number_91 rfl (lv_at hl 0 rfl) ?_
    refine wl_getf (C := RX5) (T := TX5) (N := 13) (ci := 5) (v := .ref (a 1)) hx hb hts in_X5 hown hK hP 0 0 rfl rfl rfl 0 (by decide) lkf7 rfl rfl dX5_number_92 ?_
    refine lv_bipush (v := 48) hx hb dX5_number_95 (by decide) ?_
    refine wl_iald hx hb hK hP 0 1 rfl rfl 48 (by omega) (Nat.le_of_ble_eq_true rfl) dX5_number_97 ?_
    refine wl_top (y := zv u 7 5) rfl ?_
    exact wl_ri (r := (zv u 7 5)) hx hb hr hlocks (by rfl) dX5_number_98
  · refine lv_tableOut (tgt := 99) hx hb dX5_number_1 (by decide) (by decide) ?_
    refine lv_aload_n hx hb dX5_number_99 rfl (lv_at hl 0 rfl) ?_
    refine wl_getf (C := RX5) (T := TX5) (N := 13) (ci := 5) (v := .int (u 6 0)) hx hb hts in_X5 hown hK hP 0 0 rfl rfl rfl 2 (by decide) lkf40 rfl rfl dX5_number_100 ?_
    exact wl_ri (r := (u 6 0)) hx hb hr hlocks (by rfl) dX5_number_103
set_option maxHeartbeats 4000000 in
set_option maxRecDepth 100000 in
theorem m_X5_fewestWords (l : Launch) (D : va_G) (cy : Nat → ClassId) (a : Nat → Nat) (u : Nat → Nat → Int32) (j : Nat) (hj : j < 8) : Met l yX5_fewestWords wsX5_fewestWords ({ frames := 2, cells := 0, slots := 0, locals := 44 } : Room) (wl_pc D cy [moW cy a u] [.ref (a 0), .int (nI j)]) (vp_Si (fun r : Int32 => r = q_wu (zv u) j)) 0 0 (fun _ => False) := by
  refine wl_ofP (cc := cX5_fewestWords) (maxL := 2) (ret := (some .int)) (by decide) rfl (Nat.le_of_ble_eq_true rfl) ?_
  intro p e s m below meth c ls hx hb hr hts hown hlocks hml hP hK hl
  have hl : lv_has ls 2 [(0, .ref (a 0)), (1, .int (nI j))] := hl
  refine lv_aload_n hx hb dX5_fewestWords_0 rfl (lv_at hl 0 rfl) ?_
  refine lv_iload_n hx hb dX5_fewestWords_1 rfl (lv_at hl 1 rfl) ?_
  refine wl_pV (As := [.int (nI j)]) (rest := []) ⟨hx, hb, hml, hown, hts⟩ (m_X5_isTaker l D cy a u j (by omega)) (cwV 1 hts gX5_fewestWords_X5_isTaker rfl rfl rfl (by decide +kernel) ⟨Nat.le_of_ble_eq_true rfl, Nat.le_of_ble_eq_true rfl⟩) hK hP [0] rfl rfl rfl rfl rfl rfl hl.1 rfl (Nat.le_of_ble_eq_true rfl) dX5_fewestWords_2 ⟨Nat.le_of_ble_eq_true rfl, Nat.le_of_ble_eq_true rfl⟩ (fun r1 er1 => ?_)
  have er1 : r1 = if (zv u 0 j = 0 ∨ zv u 0 j = 1) then 1 else 0 := er1
  refine wl_b_eq (tgt := 26) hx hb (zv u 0 j = 0 ∨ zv u 0 j = 1) er1 dX5_fewestWords_5 (by decide) (fun h1 => ?_) (fun h1 => ?_)
  · refine lv_iconst (v := (-1)) hx hb dX5_fewestWords_26 (by decide) ?_
    exact wl_ri (r := (-1)) hx hb hr hlocks (by exact (if_neg (fun q => absurd q.1 h1)).symm) dX5_fewestWords_27
  · refine lv_aload_n hx hb dX5_fewestWords_8 rfl (lv_at hl 0 rfl) ?_
    refine lv_iload_n hx hb dX5_fewestWords_9 rfl (lv_at hl 1 rfl) ?_
    refine wl_pV (As := [.int (nI j)]) (rest := []) ⟨hx, hb, hml, hown, hts⟩ (m_X5_isCut l D cy a u j (by omega)) (cwV 1 hts gX5_fewestWords_X5_isCut rfl rfl rfl (by decide +kernel) ⟨Nat.le_of_ble_eq_true rfl, Nat.le_of_ble_eq_true rfl⟩) hK hP [0] rfl rfl rfl rfl rfl rfl hl.1 rfl (Nat.le_of_ble_eq_true rfl) dX5_fewestWords_10 ⟨Nat.le_of_ble_eq_true rfl, Nat.le_of_ble_eq_true rfl⟩ (fun r2 er2 => ?_)
    have er2 : r2 = if (q_cut (zv u) j = true) then 1 else 0 := er2
    refine wl_b_ne (tgt := 26) hx hb (q_cut (zv u) j = true) er2 dX5_fewestWords_13 (by decide) (fun h2 => ?_) (fun h2 => ?_)
    · refine lv_iconst (v := (-1)) hx hb dX5_fewestWords_26 (by decide) ?_
      exact wl_ri (r := (-1)) hx hb hr hlocks (by exact (if_neg (fun q => by rw [h2] at q; exact absurd q.2 (by decide))).symm) dX5_fewestWords_27
    · refine lv_aload_n hx hb dX5_fewestWords_16 rfl (lv_at hl 0 rfl) ?_
      refine lv_iload_n hx hb dX5_fewestWords_17 rfl (lv_at hl 1 rfl) ?_
      refine wl_pV (As := [.int (nI j)]) (rest := []) ⟨hx, hb, hml, hown, hts⟩ (m_X5_takersAhead l D cy a u j (by omega)) (cwV 1 hts gX5_fewestWords_X5_takersAhead rfl rfl rfl (by decide +kernel) ⟨Nat.le_of_ble_eq_true rfl, Nat.le_of_ble_eq_true rfl⟩) hK hP [0] rfl rfl rfl rfl rfl rfl hl.1 rfl (Nat.le_of_ble_eq_true rfl) dX5_fewestWords_18 ⟨Nat.le_of_ble_eq_true rfl, Nat.le_of_ble_eq_true rfl⟩ (fun r3 er3 => ?_)
      have er3 : r3 = nI (q_ta (zv u) j) := er3
      subst er3
      have hta := q_ta_le (zv u) j
      refine lv_iconst (v := 1) hx hb dX5_fewestWords_21 (by decide) ?_
      refine lv_iadd hx hb dX5_fewestWords_22 ?_
      refine wl_top (y := nI ((q_ta (zv u) j) + 1)) (nI_add (q_ta (zv u) j) 1) ?_
      refine lv_goto (tgt := 27) hx hb dX5_fewestWords_23 (by decide) ?_
      exact wl_ri (r := (nI ((q_ta (zv u) j) + 1))) hx hb hr hlocks (by exact (if_pos ⟨h1, by simpa using h2⟩).symm) dX5_fewestWords_27
set_option maxHeartbeats 4000000 in
set_option maxRecDepth 100000 in
theorem m_X5_wrongOnes (l : Launch) (D : va_G) (cy : Nat → ClassId) (a : Nat → Nat) (u : Nat → Nat → Int32) (x : Int32) (sz : Nat) (ht : u 6 3 = -1) (hx9 : ¬ x = -1) : Met l yX5_wrongOnes wsX5_wrongOnes ({ frames := 5, cells := 0, slots := 0, locals := 111 } : Room) (wl_ic D cy (fun _ => True) [moW cy a u] sz [.ref (a 0), .int x]) (va_Qi (fun (r : Int32) (bs : List va_W) => r = q_wv u x ∧ bs = [moW cy a u]) (wl_ib D [moW cy a u] sz) (va_A ([moW cy a u] : List va_W).flatten sz)) 0 0 (va_A ([moW cy a u] : List va_W).flatten sz) := by
  refine wl_ofI (cc := cX5_wrongOnes) (maxL := 5) (ret := (some .int)) (by decide) rfl (Nat.le_of_ble_eq_true rfl) ?_
  intro p e s m below meth c ls A hx hb hr hts hown hlocks hml hnm hsz hAe hP hK hD hX hA hS hl
  have hl : lv_has ls 5 [(0, .ref (a 0)), (1, .int x)] := hl
  have lkf26 := hts (.fieldLink RX5 26 "WireLampsModel" "trial" "I") (by decide +kernel)
  have lkf7 := hts (.fieldLink RX5 7 "WireLampsModel" "z" "[I") (by decide +kernel)
  have in_X5 : ∀ w ∈ u_ws RX5 TX5 13, w ∈ wsX5_wrongOnes := by decide +kernel
  refine lv_aload_n hx hb dX5_wrongOnes_0 rfl (lv_at hl 0 rfl) ?_
  refine lv_iload_n hx hb dX5_wrongOnes_1 rfl (lv_at hl 1 rfl) ?_
  refine wl_putf (C := RX5) (T := TX5) (N := 13) (ci := 5) (v := .int x) hx hb hts in_X5 tyX5 tyX5_ok nmX5 hown hK hP hD hS 0 0 rfl rfl rfl 8 (by decide) lkf26 rfl rfl rfl rfl (Nat.le_of_ble_eq_true rfl) dX5_wrongOnes_2 (fun H locs hP hD hS => ?_)
  have hP : va_P D vwCl ([moW cy a (su u 6 3 x)] : List va_W).flatten H := hP
  have hD : va_D A ([moW cy a (su u 6 3 x)] : List va_W).flatten := hD
  refine lv_iconst (v := 0) hx hb dX5_wrongOnes_5 (by decide) ?_
  refine lv_istore_n (lv' := [(2, .int 0), (0, .ref (a 0)), (1, .int x)]) hx hb dX5_wrongOnes_6 rfl hl (by decide) rfl (fun ls hl => ?_)
  refine lv_iconst (v := 0) hx hb dX5_wrongOnes_7 (by decide) ?_
  refine lv_istore_n (lv' := [(3, .int 0), (2, .int 0), (0, .ref (a 0)), (1, .int x)]) hx hb dX5_wrongOnes_8 rfl hl (by decide) rfl (fun ls hl => ?_)
  suffices K1 : ∀ (n2 : Nat) (i : Nat), 8 - i < n2 → (i ≤ 8) → ∀ (ls : Array Slot) (H : Heap) (locs : List Loc), va_P D vwCl ([moW cy a (su u 6 3 x)] : List va_W).flatten H → va_D A ([moW cy a (su u 6 3 x)] : List va_W).flatten → va_S A s.heap H locs → lv_has ls 5 [(3, .int (nI i)), (2, .int (q_wr (su u 6 3 x) x i)), (0, .ref (a 0)), (1, .int x)] → W p l e ({ frames := 5, cells := 0, slots := 0, locals := 111 } : Room) s m ([.ref (a 0), .int x] : List Value).toArray below meth c H locs 0 0 (MQ below (va_Qi (fun (r : Int32) (bs : List va_W) => r = q_wv u x ∧ bs = [moW cy a u]) (wl_ib D [moW cy a u] sz) (va_A ([moW cy a u] : List va_W).flatten sz)) ([.ref (a 0), .int x] : List Value).toArray s 0 0 (va_A ([moW cy a u] : List va_W).flatten sz)) (F0 m 9 ls []) from K1 9 0 (by omega) (by omega) _ _ _ hP hD hS (lv_sub hl [0, 1, 2, 3] rfl)
  intro n2
  induction n2 with
  | zero => intro i hm; exact absurd hm (Nat.not_lt_zero _)
  | succ n2 ih3 =>
    intro i hm hi ls H locs hP hD hS hl
    refine lv_iload_n hx hb dX5_wrongOnes_9 rfl (lv_at hl 0 rfl) ?_
    refine lv_bipush (v := 8) hx hb dX5_wrongOnes_10 (by decide) ?_
    refine wl_icmp_ge (tgt := 59) hx hb i 8 dX5_wrongOnes_12 (by decide) (by omega) (by omega) (fun c4 => ?_) (fun c4 => ?_)
    · refine lv_aload_n hx hb dX5_wrongOnes_59 rfl (lv_at hl 2 rfl) ?_
      refine lv_iconst (v := (-1)) hx hb dX5_wrongOnes_60 (by decide) ?_
      refine wl_putf (C := RX5) (T := TX5) (N := 13) (ci := 5) (v := .int (-1)) hx hb hts in_X5 tyX5 tyX5_ok nmX5 hown hK hP hD hS 0 0 rfl rfl rfl 8 (by decide) lkf26 rfl rfl rfl rfl (Nat.le_of_ble_eq_true rfl) dX5_wrongOnes_61 (fun H locs hP hD hS => ?_)
      have hP : va_P D vwCl ([moW cy a (su (su u 6 3 x) 6 3 (-1))] : List va_W).flatten H := hP
      have hD : va_D A ([moW cy a (su (su u 6 3 x) 6 3 (-1))] : List va_W).flatten := hD
      refine lv_iload_n hx hb dX5_wrongOnes_64 rfl (lv_at hl 1 rfl) ?_
      exact wl_Ri (bs := [moW cy a (su (su u 6 3 x) 6 3 (-1))]) (r := (q_wr (su u 6 3 x) x i)) hx hb hr hlocks hAe hP hD hS (by obtain rfl : i = 8 := (by omega); exact ⟨rfl, congrArg (fun y => [moW cy a y]) (su_bk ht)⟩) dX5_wrongOnes_65
    · refine lv_aload_n hx hb dX5_wrongOnes_15 rfl (lv_at hl 2 rfl) ?_
      refine wl_getf (C := RX5) (T := TX5) (N := 13) (ci := 5) (v := .ref (a 1)) hx hb hts in_X5 hown hK hP 0 0 rfl rfl rfl 0 (by decide) lkf7 rfl rfl dX5_wrongOnes_16 ?_
      refine lv_iconst (v := 0) hx hb dX5_wrongOnes_19 (by decide) ?_
      refine lv_iload_n hx hb dX5_wrongOnes_20 rfl (lv_at hl 0 rfl) ?_
      refine lv_iadd hx hb dX5_wrongOnes_21 ?_
      refine wl_top (y := nI (0 + i)) (nI_add 0 i) ?_
      refine wl_iald hx hb hK hP 0 1 rfl rfl (0 + i) (by omega) (Nat.le_of_ble_eq_true rfl) dX5_wrongOnes_22 ?_
      refine wl_top (y := zv (su u 6 3 x) 0 i) rfl ?_
      have K8 : ∀ (ls : Array Slot) (H : Heap) (locs : List Loc) (v7 : Int32), v7 = (if (zv (su u 6 3 x) 0 i) = 0 then (q_wb (su u 6 3 x) 96 i) else 0) → va_P D vwCl ([moW cy a (su u 6 3 x)] : List va_W).flatten H → va_D A ([moW cy a (su u 6 3 x)] : List va_W).flatten → va_S A s.heap H locs → lv_has ls 5 [(3, .int (nI i)), (2, .int (q_wr (su u 6 3 x) x i)), (0, .ref (a 0)), (1, .int x)] → W p l e ({ frames := 5, cells := 0, slots := 0, locals := 111 } : Room) s m ([.ref (a 0), .int x] : List Value).toArray below meth c H locs 0 0 (MQ below (va_Qi (fun (r : Int32) (bs : List va_W) => r = q_wv u x ∧ bs = [moW cy a u]) (wl_ib D [moW cy a u] sz) (va_A ([moW cy a u] : List va_W).flatten sz)) ([.ref (a 0), .int x] : List Value).toArray s 0 0 (va_A ([moW cy a u] : List va_W).flatten sz)) (F0 m 35 ls [.int v7]) := by
        intro ls H locs v7 ev7 hP hD hS hl
        refine lv_istore (lv' := [(4, .int v7), (3, .int (nI i)), (2, .int (q_wr (su u 6 3 x) x i)), (0, .ref (a 0)), (1, .int x)]) hx hb dX5_wrongOnes_35 hl (by decide) rfl (fun ls hl => ?_)
        refine lv_iload_n hx hb dX5_wrongOnes_37 rfl (lv_at hl 2 rfl) ?_
        refine lv_iload hx hb dX5_wrongOnes_38 (lv_at hl 0 rfl) ?_
        refine lv_iload_n hx hb dX5_wrongOnes_40 rfl (lv_at hl 4 rfl) ?_
        have K11 : ∀ (ls : Array Slot) (H : Heap) (locs : List Loc) (v10 : Int32), v10 = (if v7 = x then 0 else ((1 : Int32) <<< ((nI i) &&& 31))) → va_P D vwCl ([moW cy a (su u 6 3 x)] : List va_W).flatten H → va_D A ([moW cy a (su u 6 3 x)] : List va_W).flatten → va_S A s.heap H locs → lv_has ls 5 [(3, .int (nI i)), (0, .ref (a 0)), (1, .int x)] → W p l e ({ frames := 5, cells := 0, slots := 0, locals := 111 } : Room) s m ([.ref (a 0), .int x] : List Value).toArray below meth c H locs 0 0 (MQ below (va_Qi (fun (r : Int32) (bs : List va_W) => r = q_wv u x ∧ bs = [moW cy a u]) (wl_ib D [moW cy a u] sz) (va_A ([moW cy a u] : List va_W).flatten sz)) ([.ref (a 0), .int x] : List Value).toArray s 0 0 (va_A ([moW cy a u] : List va_W).flatten sz)) (F0 m 51 ls [.int v10, .int (q_wr (su u 6 3 x) x i)]) := by
          intro ls H locs v10 ev10 hP hD hS hl
          refine lv_ior hx hb dX5_wrongOnes_51 ?_
          refine lv_istore_n (lv' := [(2, .int ((q_wr (su u 6 3 x) x i) ||| v10)), (3, .int (nI i)), (0, .ref (a 0)), (1, .int x)]) hx hb dX5_wrongOnes_52 rfl hl (by decide) rfl (fun ls hl => ?_)
          refine lv_iinc (v := nI (i + 1)) (lv' := [(3, .int (nI (i + 1))), (2, .int ((q_wr (su u 6 3 x) x i) ||| v10)), (0, .ref (a 0)), (1, .int x)]) hx hb dX5_wrongOnes_53 hl (k := 1) rfl (wl_inc i) (by decide) rfl (fun ls hl => ?_)
          refine lv_goto (tgt := 9) hx hb dX5_wrongOnes_56 (by decide) ?_
          subst ev7 ev10
          exact ih3 (i + 1) (by omega) (by omega) _ _ _ hP hD hS (lv_sub hl [0, 1, 2, 3] rfl)
        refine lv_icmp_ne (tgt := 48) hx hb dX5_wrongOnes_41 (by decide) (fun c9 => ?_) (fun c9 => ?_)
        · refine lv_iconst (v := 1) hx hb dX5_wrongOnes_48 (by decide) ?_
          refine lv_iload_n hx hb dX5_wrongOnes_49 rfl (lv_at hl 1 rfl) ?_
          refine lv_ishl hx hb dX5_wrongOnes_50 ?_
          exact K11 _ _ _ ((1 : Int32) <<< ((nI i) &&& 31)) (by rw [if_neg c9]) hP hD hS (lv_sub hl [1, 3, 4] rfl)
        · refine lv_iconst (v := 0) hx hb dX5_wrongOnes_44 (by decide) ?_
          refine lv_goto (tgt := 51) hx hb dX5_wrongOnes_45 (by decide) ?_
          exact K11 _ _ _ 0 (by rw [if_pos c9]) hP hD hS (lv_sub hl [1, 3, 4] rfl)
      refine lv_if_ne (tgt := 34) hx hb dX5_wrongOnes_23 (by decide) (fun c5 => ?_) (fun c5 => ?_)
      · refine lv_iconst (v := 0) hx hb dX5_wrongOnes_34 (by decide) ?_
        exact K8 _ _ _ 0 (by rw [if_neg c5]) hP hD hS (lv_sub hl [0, 1, 2, 3] rfl)
      · refine lv_aload_n hx hb dX5_wrongOnes_26 rfl (lv_at hl 2 rfl) ?_
        refine lv_iload_n hx hb dX5_wrongOnes_27 rfl (lv_at hl 0 rfl) ?_
        refine wl_pV (As := [.int (nI i)]) (rest := []) ⟨hx, hb, hml, hown, hts⟩ (m_X5_wordBehind l D cy a (su u 6 3 x) i 96 (by omega) (Or.inr ⟨hx9, rfl⟩) (by omega)) (cwV 1 hts gX5_wrongOnes_X5_wordBehind rfl rfl rfl (by decide +kernel) ⟨Nat.le_of_ble_eq_true rfl, Nat.le_of_ble_eq_true rfl⟩) hK hP [0] rfl rfl rfl rfl rfl rfl hl.1 rfl (Nat.le_of_ble_eq_true rfl) dX5_wrongOnes_28 ⟨Nat.le_of_ble_eq_true rfl, Nat.le_of_ble_eq_true rfl⟩ (fun r6 er6 => ?_)
        have er6 : r6 = q_wb (su u 6 3 x) 96 i := er6
        subst er6
        refine lv_goto (tgt := 35) hx hb dX5_wrongOnes_31 (by decide) ?_
        exact K8 _ _ _ (q_wb (su u 6 3 x) 96 i) (by rw [if_pos c5]) hP hD hS (lv_sub hl [0, 1, 2, 3] rfl)
set_option maxHeartbeats 4000000 in
set_option maxRecDepth 100000 in
theorem m_X5_greatestLoss (l : Launch) (D : va_G) (cy : Nat → ClassId) (a : Nat → Nat) (u : Nat → Nat → Int32) (j : Nat) (sz : Nat) (ht : u 6 3 = -1) (hj : j < 8) : Met l yX5_greatestLoss wsX5_greatestLoss ({ frames := 6, cells := 0, slots := 0, locals := 135 } : Room) (wl_ic D cy (fun _ => True) [moW cy a u] sz [.ref (a 0), .int (nI j)]) (va_Qi (fun (r : Int32) (bs : List va_W) => r = q_fl u j 7 ∧ bs = [moW cy a u]) (wl_ib D [moW cy a u] sz) (va_A ([moW cy a u] : List va_W).flatten sz)) 0 0 (va_A ([moW cy a u] : List va_W).flatten sz) := by
  refine wl_ofI (cc := cX5_greatestLoss) (maxL := 5) (ret := (some .int)) (by decide) rfl (Nat.le_of_ble_eq_true rfl) ?_
  intro p e s m below meth c ls A hx hb hr hts hown hlocks hml hnm hsz hAe hP hK hD hX hA hS hl
  have hl : lv_has ls 5 [(0, .ref (a 0)), (1, .int (nI j))] := hl
  have lkf7 := hts (.fieldLink RX5 7 "WireLampsModel" "z" "[I") (by decide +kernel)
  have in_X5 : ∀ w ∈ u_ws RX5 TX5 13, w ∈ wsX5_greatestLoss := by decide +kernel
  refine lv_aload_n hx hb dX5_greatestLoss_0 rfl (lv_at hl 0 rfl) ?_
  refine wl_getf (C := RX5) (T := TX5) (N := 13) (ci := 5) (v := .ref (a 1)) hx hb hts in_X5 hown hK hP 0 0 rfl rfl rfl 0 (by decide) lkf7 rfl rfl dX5_greatestLoss_1 ?_
  refine lv_bipush (v := 8) hx hb dX5_greatestLoss_4 (by decide) ?_
  refine lv_iload_n hx hb dX5_greatestLoss_6 rfl (lv_at hl 1 rfl) ?_
  refine lv_iadd hx hb dX5_greatestLoss_7 ?_
  refine wl_top (y := nI (8 + j)) (nI_add 8 j) ?_
  refine wl_iald hx hb hK hP 0 1 rfl rfl (8 + j) (by omega) (Nat.le_of_ble_eq_true rfl) dX5_greatestLoss_8 ?_
  refine wl_top (y := zv u 1 j) rfl ?_
  refine lv_istore_n (lv' := [(2, .int (zv u 1 j)), (0, .ref (a 0)), (1, .int (nI j))]) hx hb dX5_greatestLoss_9 rfl hl (by decide) rfl (fun ls hl => ?_)
  refine lv_iconst (v := (-1)) hx hb dX5_greatestLoss_10 (by decide) ?_
  refine lv_istore_n (lv' := [(3, .int (-1)), (2, .int (zv u 1 j)), (0, .ref (a 0)), (1, .int (nI j))]) hx hb dX5_greatestLoss_11 rfl hl (by decide) rfl (fun ls hl => ?_)
  refine lv_iconst (v := 0) hx hb dX5_greatestLoss_12 (by decide) ?_
  refine lv_istore (lv' := [(4, .int 0), (3, .int (-1)), (2, .int (zv u 1 j)), (0, .ref (a 0)), (1, .int (nI j))]) hx hb dX5_greatestLoss_13 hl (by decide) rfl (fun ls hl => ?_)
  suffices K1 : ∀ (n2 : Nat) (l2 : Nat) (X : Int32) (Y : Nat → Nat → Int32), 7 - l2 < n2 → (l2 ≤ 7) → (∀ y : Int32, su Y 0 (8 + j) y = su u 0 (8 + j) y) → (Y 6 3 = -1) → (X = q_fl u j l2) → ∀ (ls : Array Slot) (H : Heap) (locs : List Loc), va_P D vwCl ([moW cy a Y] : List va_W).flatten H → va_D A ([moW cy a Y] : List va_W).flatten → va_S A s.heap H locs → lv_has ls 5 [(4, .int (nI l2)), (3, .int X), (2, .int (zv u 1 j)), (0, .ref (a 0)), (1, .int (nI j))] → W p l e ({ frames := 6, cells := 0, slots := 0, locals := 135 } : Room) s m ([.ref (a 0), .int (nI j)] : List Value).toArray below meth c H locs 0 0 (MQ below (va_Qi (fun (r : Int32) (bs : List va_W) => r = q_fl u j 7 ∧ bs = [moW cy a u]) (wl_ib D [moW cy a u] sz) (va_A ([moW cy a u] : List va_W).flatten sz)) ([.ref (a 0), .int (nI j)] : List Value).toArray s 0 0 (va_A ([moW cy a u] : List va_W).flatten sz)) (F0 m 15 ls []) from K1 8 0 (-1) u (by omega) (by omega) (fun _ => rfl) ht rfl _ _ _ hP hD hS (lv_sub hl [0, 1, 2, 3, 4] rfl)
  intro n2
  induction n2 with
  | zero => intro l2 X Y hm; exact absurd hm (Nat.not_lt_zero _)
  | succ n2 ih3 =>
    intro l2 X Y hm hi hW hT hC ls H locs hP hD hS hl
    refine lv_iload hx hb dX5_greatestLoss_15 (lv_at hl 0 rfl) ?_
    refine lv_bipush (v := 7) hx hb dX5_greatestLoss_17 (by decide) ?_
    refine wl_icmp_ge (tgt := 66) hx hb l2 7 dX5_greatestLoss_19 (by decide) (by omega) (by omega) (fun c4 => ?_) (fun c4 => ?_)
    · refine lv_aload_n hx hb dX5_greatestLoss_66 rfl (lv_at hl 3 rfl) ?_
      refine wl_getf (C := RX5) (T := TX5) (N := 13) (ci := 5) (v := .ref (a 1)) hx hb hts in_X5 hown hK hP 0 0 rfl rfl rfl 0 (by decide) lkf7 rfl rfl dX5_greatestLoss_67 ?_
      refine lv_bipush (v := 8) hx hb dX5_greatestLoss_70 (by decide) ?_
      refine lv_iload_n hx hb dX5_greatestLoss_72 rfl (lv_at hl 4 rfl) ?_
      refine lv_iadd hx hb dX5_greatestLoss_73 ?_
      refine wl_top (y := nI (8 + j)) (nI_add 8 j) ?_
      refine lv_iload_n hx hb dX5_greatestLoss_74 rfl (lv_at hl 2 rfl) ?_
      refine wl_iast hx hb hK hP hD hS 0 1 rfl rfl (8 + j) (by omega) (Nat.le_of_ble_eq_true rfl) dX5_greatestLoss_75 (fun H locs hP hD hS => ?_)
      have hP : va_P D vwCl ([moW cy a (su Y 0 (8 + j) (zv u 1 j))] : List va_W).flatten H := hP
      have hD : va_D A ([moW cy a (su Y 0 (8 + j) (zv u 1 j))] : List va_W).flatten := hD
      refine lv_iload_n hx hb dX5_greatestLoss_76 rfl (lv_at hl 1 rfl) ?_
      exact wl_Ri (bs := [moW cy a (su Y 0 (8 + j) (zv u 1 j))]) (r := X) hx hb hr hlocks hAe hP hD hS (by obtain rfl : l2 = 7 := (by omega); subst hC; exact ⟨rfl, congrArg (fun y => [moW cy a y]) ((hW _).trans su_id)⟩) dX5_greatestLoss_77
    · refine lv_aload_n hx hb dX5_greatestLoss_22 rfl (lv_at hl 3 rfl) ?_
      refine wl_getf (C := RX5) (T := TX5) (N := 13) (ci := 5) (v := .ref (a 1)) hx hb hts in_X5 hown hK hP 0 0 rfl rfl rfl 0 (by decide) lkf7 rfl rfl dX5_greatestLoss_23 ?_
      refine lv_bipush (v := 8) hx hb dX5_greatestLoss_26 (by decide) ?_
      refine lv_iload_n hx hb dX5_greatestLoss_28 rfl (lv_at hl 4 rfl) ?_
      refine lv_iadd hx hb dX5_greatestLoss_29 ?_
      refine wl_top (y := nI (8 + j)) (nI_add 8 j) ?_
      refine lv_iload hx hb dX5_greatestLoss_30 (lv_at hl 0 rfl) ?_
      refine wl_iast hx hb hK hP hD hS 0 1 rfl rfl (8 + j) (by omega) (Nat.le_of_ble_eq_true rfl) dX5_greatestLoss_32 (fun H locs hP hD hS => ?_)
      have hP : va_P D vwCl ([moW cy a (su Y 0 (8 + j) (nI l2))] : List va_W).flatten H := hP
      have hD : va_D A ([moW cy a (su Y 0 (8 + j) (nI l2))] : List va_W).flatten := hD
      refine lv_aload_n hx hb dX5_greatestLoss_33 rfl (lv_at hl 3 rfl) ?_
      refine lv_sipush (v := 1365) hx hb dX5_greatestLoss_34 (by decide) ?_
      refine wl_iV (As := [.int 1365]) (rest := []) (bsC := [moW cy a (su Y 0 (8 + j) (nI l2))]) (bsR := []) ⟨hx, hb, hml, hown, hts⟩ (m_X5_wrongOnes l D cy a (su Y 0 (8 + j) (nI l2)) 1365 H.size hT (by decide)) (cwV 1 hts gX5_greatestLoss_X5_wrongOnes rfl rfl rfl (by decide +kernel) ⟨Nat.le_of_ble_eq_true rfl, Nat.le_of_ble_eq_true rfl⟩) wl_xT (fun _ _ _ => trivial) hK hP hD hS hA rfl rfl rfl rfl rfl hl.1 rfl (Nat.le_of_ble_eq_true rfl) dX5_greatestLoss_37 ⟨Nat.le_of_ble_eq_true rfl, Nat.le_of_ble_eq_true rfl⟩ (fun r5 bs6 H locs e7 _ _ hP hD hS => ?_)
      obtain ⟨er5, e7⟩ : r5 = q_wv (su Y 0 (8 + j) (nI l2)) 1365 ∧ bs6 = [moW cy a (su Y 0 (8 + j) (nI l2))] := e7
      subst e7
      subst er5
      have hP : va_P D vwCl ([moW cy a (su Y 0 (8 + j) (nI l2))] : List va_W).flatten H := hP
      have hD : va_D A ([moW cy a (su Y 0 (8 + j) (nI l2))] : List va_W).flatten := hD
      have K14 : ∀ (ls : Array Slot) (H : Heap) (locs : List Loc) (v13 : Int32), v13 = (if (q_wv (su Y 0 (8 + j) (nI l2)) 1365) = 0 then (if (q_wv (su Y 0 (8 + j) (nI l2)) 2730) = 0 then (nI l2) else X) else X) → va_P D vwCl ([moW cy a (su Y 0 (8 + j) (nI l2))] : List va_W).flatten H → va_D A ([moW cy a (su Y 0 (8 + j) (nI l2))] : List va_W).flatten → va_S A s.heap H locs → lv_has ls 5 [(4, .int (nI l2)), (2, .int (zv u 1 j)), (0, .ref (a 0)), (1, .int (nI j))] → W p l e ({ frames := 6, cells := 0, slots := 0, locals := 135 } : Room) s m ([.ref (a 0), .int (nI j)] : List Value).toArray below meth c H locs 0 0 (MQ below (va_Qi (fun (r : Int32) (bs : List va_W) => r = q_fl u j 7 ∧ bs = [moW cy a u]) (wl_ib D [moW cy a u] sz) (va_A ([moW cy a u] : List va_W).flatten sz)) ([.ref (a 0), .int (nI j)] : List Value).toArray s 0 0 (va_A ([moW cy a u] : List va_W).flatten sz)) (F0 m 59 ls [.int v13]) := by
        intro ls H locs v13 ev13 hP hD hS hl
        refine lv_istore_n (lv' := [(3, .int v13), (4, .int (nI l2)), (2, .int (zv u 1 j)), (0, .ref (a 0)), (1, .int (nI j))]) hx hb dX5_greatestLoss_59 rfl hl (by decide) rfl (fun ls hl => ?_)
        refine lv_iinc (v := nI (l2 + 1)) (lv' := [(4, .int (nI (l2 + 1))), (3, .int v13), (2, .int (zv u 1 j)), (0, .ref (a 0)), (1, .int (nI j))]) hx hb dX5_greatestLoss_60 hl (k := 1) rfl (wl_inc l2) (by decide) rfl (fun ls hl => ?_)
        refine lv_goto (tgt := 15) hx hb dX5_greatestLoss_63 (by decide) ?_
        subst ev13
        exact ih3 (l2 + 1) (if (q_wv (su Y 0 (8 + j) (nI l2)) 1365) = 0 then (if (q_wv (su Y 0 (8 + j) (nI l2)) 2730) = 0 then (nI l2) else X) else X) (su Y 0 (8 + j) (nI l2)) (by omega) (by omega) (by intro y; rw [su_su]; exact hW y) (by exact hT) (by rw [hC]; simp only [hW, q_fl]; rfl) _ _ _ hP hD hS (lv_sub hl [0, 1, 2, 3, 4] rfl)
      refine lv_if_ne (tgt := 58) hx hb dX5_greatestLoss_40 (by decide) (fun c8 => ?_) (fun c8 => ?_)
      · refine lv_iload_n hx hb dX5_greatestLoss_58 rfl (lv_at hl 1 rfl) ?_
        exact K14 _ _ _ X (by rw [if_neg c8]) hP hD hS (lv_sub hl [0, 2, 3, 4] rfl)
      · refine lv_aload_n hx hb dX5_greatestLoss_43 rfl (lv_at hl 3 rfl) ?_
        refine lv_sipush (v := 2730) hx hb dX5_greatestLoss_44 (by decide) ?_
        refine wl_iV (As := [.int 2730]) (rest := []) (bsC := [moW cy a (su Y 0 (8 + j) (nI l2))]) (bsR := []) ⟨hx, hb, hml, hown, hts⟩ (m_X5_wrongOnes l D cy a (su Y 0 (8 + j) (nI l2)) 2730 H.size hT (by decide)) (cwV 1 hts gX5_greatestLoss_X5_wrongOnes rfl rfl rfl (by decide +kernel) ⟨Nat.le_of_ble_eq_true rfl, Nat.le_of_ble_eq_true rfl⟩) wl_xT (fun _ _ _ => trivial) hK hP hD hS hA rfl rfl rfl rfl rfl hl.1 rfl (Nat.le_of_ble_eq_true rfl) dX5_greatestLoss_47 ⟨Nat.le_of_ble_eq_true rfl, Nat.le_of_ble_eq_true rfl⟩ (fun r9 bs10 H locs e11 _ _ hP hD hS => ?_)
        obtain ⟨er9, e11⟩ : r9 = q_wv (su Y 0 (8 + j) (nI l2)) 2730 ∧ bs10 = [moW cy a (su Y 0 (8 + j) (nI l2))] := e11
        subst e11
        subst er9
        have hP : va_P D vwCl ([moW cy a (su Y 0 (8 + j) (nI l2))] : List va_W).flatten H := hP
        have hD : va_D A ([moW cy a (su Y 0 (8 + j) (nI l2))] : List va_W).flatten := hD
        refine lv_if_ne (tgt := 58) hx hb dX5_greatestLoss_50 (by decide) (fun c12 => ?_) (fun c12 => ?_)
        · refine lv_iload_n hx hb dX5_greatestLoss_58 rfl (lv_at hl 1 rfl) ?_
          exact K14 _ _ _ X (by rw [if_pos c8, if_neg c12]) hP hD hS (lv_sub hl [0, 2, 3, 4] rfl)
        · refine lv_iload hx hb dX5_greatestLoss_53 (lv_at hl 0 rfl) ?_
          refine lv_goto (tgt := 59) hx hb dX5_greatestLoss_55 (by decide) ?_
          exact K14 _ _ _ (nI l2) (by rw [if_pos c8, if_pos c12]) hP hD hS (lv_sub hl [0, 2, 3, 4] rfl)
set_option maxHeartbeats 4000000 in
set_option maxRecDepth 100000 in
theorem m_X5_brokenAt (l : Launch) (D : va_G) (cy : Nat → ClassId) (a : Nat → Nat) (u : Nat → Nat → Int32) (sz : Nat) (ht : u 6 3 = -1) : Met l yX5_brokenAt wsX5_brokenAt ({ frames := 3, cells := 0, slots := 0, locals := 66 } : Room) (wl_ic D cy (fun _ => True) [moW cy a u] sz [.ref (a 0)]) (va_Qi (fun (r : Int32) (bs : List va_W) => r = q_bf (su (su u 6 2 0) 6 3 0) 8 ∧ bs = [moW cy a (su u 6 2 0)]) (wl_ib D [moW cy a u] sz) (va_A ([moW cy a u] : List va_W).flatten sz)) 0 0 (va_A ([moW cy a u] : List va_W).flatten sz) := by
  refine wl_ofI (cc := cX5_brokenAt) (maxL := 3) (ret := (some .int)) (by decide) rfl (Nat.le_of_ble_eq_true rfl) ?_
  intro p e s m below meth c ls A hx hb hr hts hown hlocks hml hnm hsz hAe hP hK hD hX hA hS hl
  have hl : lv_has ls 3 [(0, .ref (a 0))] := hl
  have lkf26 := hts (.fieldLink RX5 26 "WireLampsModel" "trial" "I") (by decide +kernel)
  have lkf33 := hts (.fieldLink RX5 33 "WireLampsModel" "thrown" "I") (by decide +kernel)
  have in_X5 : ∀ w ∈ u_ws RX5 TX5 13, w ∈ wsX5_brokenAt := by decide +kernel
  refine lv_aload_n hx hb dX5_brokenAt_0 rfl (lv_at hl 0 rfl) ?_
  refine lv_iconst (v := 0) hx hb dX5_brokenAt_1 (by decide) ?_
  refine wl_putf (C := RX5) (T := TX5) (N := 13) (ci := 5) (v := .int 0) hx hb hts in_X5 tyX5 tyX5_ok nmX5 hown hK hP hD hS 0 0 rfl rfl rfl 7 (by decide) lkf33 rfl rfl rfl rfl (Nat.le_of_ble_eq_true rfl) dX5_brokenAt_2 (fun H locs hP hD hS => ?_)
  have hP : va_P D vwCl ([moW cy a (su u 6 2 0)] : List va_W).flatten H := hP
  have hD : va_D A ([moW cy a (su u 6 2 0)] : List va_W).flatten := hD
  refine lv_aload_n hx hb dX5_brokenAt_5 rfl (lv_at hl 0 rfl) ?_
  refine lv_iconst (v := 0) hx hb dX5_brokenAt_6 (by decide) ?_
  refine wl_putf (C := RX5) (T := TX5) (N := 13) (ci := 5) (v := .int 0) hx hb hts in_X5 tyX5 tyX5_ok nmX5 hown hK hP hD hS 0 0 rfl rfl rfl 8 (by decide) lkf26 rfl rfl rfl rfl (Nat.le_of_ble_eq_true rfl) dX5_brokenAt_7 (fun H locs hP hD hS => ?_)
  have hP : va_P D vwCl ([moW cy a (su (su u 6 2 0) 6 3 0)] : List va_W).flatten H := hP
  have hD : va_D A ([moW cy a (su (su u 6 2 0) 6 3 0)] : List va_W).flatten := hD
  refine lv_iconst (v := (-1)) hx hb dX5_brokenAt_10 (by decide) ?_
  refine lv_istore_n (lv' := [(1, .int (-1)), (0, .ref (a 0))]) hx hb dX5_brokenAt_11 rfl hl (by decide) rfl (fun ls hl => ?_)
  refine lv_bipush (v := 7) hx hb dX5_brokenAt_12 (by decide) ?_
  refine lv_istore_n (lv' := [(2, .int 7), (1, .int (-1)), (0, .ref (a 0))]) hx hb dX5_brokenAt_14 rfl hl (by decide) rfl (fun ls hl => ?_)
  suffices K1 : ∀ (n2 : Nat) (j : Nat) (X : Int32), j < n2 → (j ≤ 8) → (X = q_bf (su (su u 6 2 0) 6 3 0) (8 - j)) → ∀ (ls : Array Slot) (H : Heap) (locs : List Loc), va_P D vwCl ([moW cy a (su (su u 6 2 0) 6 3 0)] : List va_W).flatten H → va_D A ([moW cy a (su (su u 6 2 0) 6 3 0)] : List va_W).flatten → va_S A s.heap H locs → lv_has ls 3 [(2, .int (nI j + -1)), (1, .int X), (0, .ref (a 0))] → W p l e ({ frames := 3, cells := 0, slots := 0, locals := 66 } : Room) s m ([.ref (a 0)] : List Value).toArray below meth c H locs 0 0 (MQ below (va_Qi (fun (r : Int32) (bs : List va_W) => r = q_bf (su (su u 6 2 0) 6 3 0) 8 ∧ bs = [moW cy a (su u 6 2 0)]) (wl_ib D [moW cy a u] sz) (va_A ([moW cy a u] : List va_W).flatten sz)) ([.ref (a 0)] : List Value).toArray s 0 0 (va_A ([moW cy a u] : List va_W).flatten sz)) (F0 m 15 ls []) from K1 9 8 (-1) (by omega) (by omega) rfl _ _ _ hP hD hS (lv_sub hl [0, 1, 2] rfl)
  intro n2
  induction n2 with
  | zero => intro j X hm; exact absurd hm (Nat.not_lt_zero _)
  | succ n2 ih3 =>
    intro j X hm hj hX ls H locs hP hD hS hl
    refine lv_iload_n hx hb dX5_brokenAt_15 rfl (lv_at hl 0 rfl) ?_
    refine lv_if_lt (tgt := 39) hx hb dX5_brokenAt_16 (by decide) (fun cx => ?_) (fun cx => ?_)
    · refine lv_aload_n hx hb dX5_brokenAt_39 rfl (lv_at hl 2 rfl) ?_
      refine lv_iconst (v := (-1)) hx hb dX5_brokenAt_40 (by decide) ?_
      refine wl_putf (C := RX5) (T := TX5) (N := 13) (ci := 5) (v := .int (-1)) hx hb hts in_X5 tyX5 tyX5_ok nmX5 hown hK hP hD hS 0 0 rfl rfl rfl 8 (by decide) lkf26 rfl rfl rfl rfl (Nat.le_of_ble_eq_true rfl) dX5_brokenAt_41 (fun H locs hP hD hS => ?_)
      have hP : va_P D vwCl ([moW cy a (su (su (su u 6 2 0) 6 3 0) 6 3 (-1))] : List va_W).flatten H := hP
      have hD : va_D A ([moW cy a (su (su (su u 6 2 0) 6 3 0) 6 3 (-1))] : List va_W).flatten := hD
      refine lv_iload_n hx hb dX5_brokenAt_44 rfl (lv_at hl 1 rfl) ?_
      exact wl_Ri (bs := [moW cy a (su (su (su u 6 2 0) 6 3 0) 6 3 (-1))]) (r := X) hx hb hr hlocks hAe hP hD hS (by obtain rfl : j = 0 := q_dn j hj cx; subst hX; exact ⟨rfl, congrArg (fun y => [moW cy a y]) (su_bk (u := su u 6 2 0) ht)⟩) dX5_brokenAt_45
    · obtain ⟨i, rfl⟩ : ∃ i : Nat, j = i + 1 := by rcases j with _ | i; exact absurd (by decide) cx; exact ⟨i, rfl⟩
      have hl : lv_has ls 3 [(2, .int (nI i)), (1, .int X), (0, .ref (a 0))] := by rw [q_dn2] at hl; exact hl
      refine lv_aload_n hx hb dX5_brokenAt_19 rfl (lv_at hl 2 rfl) ?_
      refine lv_iload_n hx hb dX5_brokenAt_20 rfl (lv_at hl 0 rfl) ?_
      refine wl_pV (As := [.int (nI i)]) (rest := []) ⟨hx, hb, hml, hown, hts⟩ (m_X5_comes l D cy a (su (su u 6 2 0) 6 3 0) i 96 (by omega) (Or.inr ⟨(by show ¬ (0 : Int32) = -1; decide), rfl⟩) (by omega)) (cwV 1 hts gX5_brokenAt_X5_comes rfl rfl rfl (by decide +kernel) ⟨Nat.le_of_ble_eq_true rfl, Nat.le_of_ble_eq_true rfl⟩) hK hP [0] rfl rfl rfl rfl rfl rfl hl.1 rfl (Nat.le_of_ble_eq_true rfl) dX5_brokenAt_21 ⟨Nat.le_of_ble_eq_true rfl, Nat.le_of_ble_eq_true rfl⟩ (fun r4 er4 => ?_)
      have er4 : r4 = nI (q_cm (su (su u 6 2 0) 6 3 0) 96 i) := er4
      subst er4
      have hcm := q_cm_le (su (su u 6 2 0) 6 3 0) 96 i
      have K7 : ∀ (ls : Array Slot) (H : Heap) (locs : List Loc) (v6 : Int32), v6 = (if (q_cm (su (su u 6 2 0) 6 3 0) 96 i) = 0 then (nI i) else X) → va_P D vwCl ([moW cy a (su (su u 6 2 0) 6 3 0)] : List va_W).flatten H → va_D A ([moW cy a (su (su u 6 2 0) 6 3 0)] : List va_W).flatten → va_S A s.heap H locs → lv_has ls 3 [(2, .int (nI i)), (0, .ref (a 0))] → W p l e ({ frames := 3, cells := 0, slots := 0, locals := 66 } : Room) s m ([.ref (a 0)] : List Value).toArray below meth c H locs 0 0 (MQ below (va_Qi (fun (r : Int32) (bs : List va_W) => r = q_bf (su (su u 6 2 0) 6 3 0) 8 ∧ bs = [moW cy a (su u 6 2 0)]) (wl_ib D [moW cy a u] sz) (va_A ([moW cy a u] : List va_W).flatten sz)) ([.ref (a 0)] : List Value).toArray s 0 0 (va_A ([moW cy a u] : List va_W).flatten sz)) (F0 m 32 ls [.int v6]) := by
        intro ls H locs v6 ev6 hP hD hS hl
        refine lv_istore_n (lv' := [(1, .int v6), (2, .int (nI i)), (0, .ref (a 0))]) hx hb dX5_brokenAt_32 rfl hl (by decide) rfl (fun ls hl => ?_)
        refine lv_iinc (v := nI i + -1) (lv' := [(2, .int (nI i + -1)), (1, .int v6), (0, .ref (a 0))]) hx hb dX5_brokenAt_33 hl (k := 1) rfl rfl (by decide) rfl (fun ls hl => ?_)
        refine lv_goto (tgt := 15) hx hb dX5_brokenAt_36 (by decide) ?_
        subst ev6
        exact ih3 i (if (q_cm (su (su u 6 2 0) 6 3 0) 96 i) = 0 then (nI i) else X) (by omega) (by omega) (by rw [hX, show 8 - i = (8 - (i + 1)) + 1 by omega]; simp only [q_bf]; rw [show 7 - (8 - (i + 1)) = i by omega]) _ _ _ hP hD hS (lv_sub hl [0, 1, 2] rfl)
      refine wl_if_ne (tgt := 31) hx hb (q_cm (su (su u 6 2 0) 6 3 0) 96 i) dX5_brokenAt_24 (by decide) (by omega) (fun c5 => ?_) (fun c5 => ?_)
      · refine lv_iload_n hx hb dX5_brokenAt_31 rfl (lv_at hl 1 rfl) ?_
        exact K7 _ _ _ X (by rw [if_neg c5]) hP hD hS (lv_sub hl [0, 2] rfl)
      · refine lv_iload_n hx hb dX5_brokenAt_27 rfl (lv_at hl 0 rfl) ?_
        refine lv_goto (tgt := 32) hx hb dX5_brokenAt_28 (by decide) ?_
        exact K7 _ _ _ (nI i) (by rw [if_pos c5]) hP hD hS (lv_sub hl [0, 2] rfl)
set_option maxHeartbeats 4000000 in
set_option maxRecDepth 100000 in
theorem m_X5_brightness (l : Launch) (D : va_G) (cy : Nat → ClassId) (a : Nat → Nat) (u : Nat → Nat → Int32) (sz : Nat) (hs : ¬ zv u 5 2 < 0) (hnan : vf_n64 (FP.ddiv (FP.i2d (q_st (zv u))) 4645040803167600640)) : Met l yX5_brightness wsX5_brightness ({ frames := 4, cells := 0, slots := 0, locals := 91 } : Room) (wl_ic D cy (fun _ => True) [moW cy a u] sz [.ref (a 0)]) (va_Qd (fun (r : UInt64) (bs : List va_W) => r = FP.ddiv (FP.i2d (q_st (zv u))) 4645040803167600640 ∧ bs = [moW cy a (su u 6 2 0)]) (wl_ib D [moW cy a u] sz) (va_A ([moW cy a u] : List va_W).flatten sz)) 0 0 (va_A ([moW cy a u] : List va_W).flatten sz) := by
  refine wl_ofI (cc := cX5_brightness) (maxL := 3) (ret := (some .double)) (by decide) rfl (Nat.le_of_ble_eq_true rfl) ?_
  intro p e s m below meth c ls A hx hb hr hts hown hlocks hml hnm hsz hAe hP hK hD hX hA hS hl
  have hl : lv_has ls 3 [(0, .ref (a 0))] := hl
  have lkc169 := hts (.constantDouble RX5 169 (4645040803167600640)) (by decide +kernel)
  have lkf33 := hts (.fieldLink RX5 33 "WireLampsModel" "thrown" "I") (by decide +kernel)
  have in_X5 : ∀ w ∈ u_ws RX5 TX5 13, w ∈ wsX5_brightness := by decide +kernel
  refine lv_aload_n hx hb dX5_brightness_0 rfl (lv_at hl 0 rfl) ?_
  refine lv_iconst (v := 0) hx hb dX5_brightness_1 (by decide) ?_
  refine wl_putf (C := RX5) (T := TX5) (N := 13) (ci := 5) (v := .int 0) hx hb hts in_X5 tyX5 tyX5_ok nmX5 hown hK hP hD hS 0 0 rfl rfl rfl 7 (by decide) lkf33 rfl rfl rfl rfl (Nat.le_of_ble_eq_true rfl) dX5_brightness_2 (fun H locs hP hD hS => ?_)
  have hP : va_P D vwCl ([moW cy a (su u 6 2 0)] : List va_W).flatten H := hP
  have hD : va_D A ([moW cy a (su u 6 2 0)] : List va_W).flatten := hD
  refine lv_aload_n hx hb dX5_brightness_5 rfl (lv_at hl 0 rfl) ?_
  refine wl_pV (As := []) (rest := []) ⟨hx, hb, hml, hown, hts⟩ (m_X5_allShown l D cy a (su u 6 2 0) hs) (cwV 0 hts gX5_brightness_X5_allShown rfl rfl rfl (by decide +kernel) ⟨Nat.le_of_ble_eq_true rfl, Nat.le_of_ble_eq_true rfl⟩) hK hP [0] rfl rfl rfl rfl rfl rfl hl.1 rfl (Nat.le_of_ble_eq_true rfl) dX5_brightness_6 ⟨Nat.le_of_ble_eq_true rfl, Nat.le_of_ble_eq_true rfl⟩ (fun r1 er1 => ?_)
  have er1 : r1 = q_st (zv (su u 6 2 0)) := er1
  subst er1
  refine lv_i2d hx hb dX5_brightness_9 ?_
  refine lv_dstore_n (lv' := [(1, .double (FP.i2d (q_st (zv (su u 6 2 0))))), (0, .ref (a 0))]) hx hb dX5_brightness_10 rfl hl (by decide) rfl (fun ls hl => ?_)
  refine lv_dload_n hx hb dX5_brightness_11 rfl (lv_at hl 0 rfl) ?_
  refine lv_ldc2d (v := 4645040803167600640) hx hb hown lkc169 dX5_brightness_12 ?_
  refine lv_ddiv hx hb dX5_brightness_15 hnan ?_
  exact wl_Rd (bs := [moW cy a (su u 6 2 0)]) (r := (FP.ddiv (FP.i2d (q_st (zv (su u 6 2 0)))) 4645040803167600640)) hx hb hr hlocks hAe hP hD hS (by exact ⟨rfl, rfl⟩) dX5_brightness_16
