/-! WireLamps: looks -/
set_option maxHeartbeats 4000000 in
set_option maxRecDepth 100000 in
theorem m_X4_isLamp (l : Launch) (D : va_G) (cy : Nat → ClassId) (x : Int32)  : Met l yX4_isLamp wsX4_isLamp ({ frames := 0, cells := 0, slots := 0, locals := 0 } : Room) (wl_pc D cy [] [.int x]) (vp_Si (fun r : Int32 => r = if (¬ x < 0 ∧ ¬ 8 ≤ x) then 1 else 0)) 0 0 (fun _ => False) := by
  refine wl_ofP (cc := cX4_isLamp) (maxL := 1) (ret := (some .boolean)) (by decide) rfl (Nat.le_of_ble_eq_true rfl) ?_
  intro p e s m below meth c ls hx hb hr hts hown hlocks hml hP hK hl
  have hl : lv_has ls 1 [(0, .int x)] := hl
  refine lv_iload_n hx hb dX4_isLamp_0 rfl (lv_at hl 0 rfl) ?_
  refine lv_if_lt (tgt := 14) hx hb dX4_isLamp_1 (by decide) (fun c1 => ?_) (fun c1 => ?_)
  · refine lv_iconst (v := 0) hx hb dX4_isLamp_14 (by decide) ?_
    exact wl_rz (r := 0) (False) hx hb hr hlocks (by rfl) (by exact (if_neg (by first | assumption | omega | simp [c1] | simp_all)).symm) dX4_isLamp_15
  · refine lv_iload_n hx hb dX4_isLamp_4 rfl (lv_at hl 0 rfl) ?_
    refine lv_bipush (v := 8) hx hb dX4_isLamp_5 (by decide) ?_
    refine lv_icmp_ge (tgt := 14) hx hb dX4_isLamp_7 (by decide) (fun c2 => ?_) (fun c2 => ?_)
    · refine lv_iconst (v := 0) hx hb dX4_isLamp_14 (by decide) ?_
      exact wl_rz (r := 0) (False) hx hb hr hlocks (by rfl) (by exact (if_neg (by first | assumption | omega | simp [c1, c2] | simp_all)).symm) dX4_isLamp_15
    · refine lv_iconst (v := 1) hx hb dX4_isLamp_10 (by decide) ?_
      refine lv_goto (tgt := 15) hx hb dX4_isLamp_11 (by decide) ?_
      exact wl_rz (r := 1) (True) hx hb hr hlocks (by rfl) (by exact (if_pos (by first | assumption | omega | simp [c1, c2] | simp_all)).symm) dX4_isLamp_15
set_option maxHeartbeats 4000000 in
set_option maxRecDepth 100000 in
theorem m_X4_isSetting (l : Launch) (D : va_G) (cy : Nat → ClassId) (x : Int32)  : Met l yX4_isSetting wsX4_isSetting ({ frames := 0, cells := 0, slots := 0, locals := 0 } : Room) (wl_pc D cy [] [.int x]) (vp_Si (fun r : Int32 => r = if (¬ x < 0 ∧ ¬ 3 ≤ x) then 1 else 0)) 0 0 (fun _ => False) := by
  refine wl_ofP (cc := cX4_isSetting) (maxL := 1) (ret := (some .boolean)) (by decide) rfl (Nat.le_of_ble_eq_true rfl) ?_
  intro p e s m below meth c ls hx hb hr hts hown hlocks hml hP hK hl
  have hl : lv_has ls 1 [(0, .int x)] := hl
  refine lv_iload_n hx hb dX4_isSetting_0 rfl (lv_at hl 0 rfl) ?_
  refine lv_if_lt (tgt := 13) hx hb dX4_isSetting_1 (by decide) (fun c1 => ?_) (fun c1 => ?_)
  · refine lv_iconst (v := 0) hx hb dX4_isSetting_13 (by decide) ?_
    exact wl_rz (r := 0) (False) hx hb hr hlocks (by rfl) (by exact (if_neg (by first | assumption | omega | simp [c1] | simp_all)).symm) dX4_isSetting_14
  · refine lv_iload_n hx hb dX4_isSetting_4 rfl (lv_at hl 0 rfl) ?_
    refine lv_iconst (v := 3) hx hb dX4_isSetting_5 (by decide) ?_
    refine lv_icmp_ge (tgt := 13) hx hb dX4_isSetting_6 (by decide) (fun c2 => ?_) (fun c2 => ?_)
    · refine lv_iconst (v := 0) hx hb dX4_isSetting_13 (by decide) ?_
      exact wl_rz (r := 0) (False) hx hb hr hlocks (by rfl) (by exact (if_neg (by first | assumption | omega | simp [c1, c2] | simp_all)).symm) dX4_isSetting_14
    · refine lv_iconst (v := 1) hx hb dX4_isSetting_9 (by decide) ?_
      refine lv_goto (tgt := 14) hx hb dX4_isSetting_10 (by decide) ?_
      exact wl_rz (r := 1) (True) hx hb hr hlocks (by rfl) (by exact (if_pos (by first | assumption | omega | simp [c1, c2] | simp_all)).symm) dX4_isSetting_14
set_option maxHeartbeats 4000000 in
set_option maxRecDepth 100000 in
theorem m_X4_isSlot (l : Launch) (D : va_G) (cy : Nat → ClassId) (x : Int32)  : Met l yX4_isSlot wsX4_isSlot ({ frames := 0, cells := 0, slots := 0, locals := 0 } : Room) (wl_pc D cy [] [.int x]) (vp_Si (fun r : Int32 => r = if (¬ x < 0 ∧ ¬ 2 ≤ x) then 1 else 0)) 0 0 (fun _ => False) := by
  refine wl_ofP (cc := cX4_isSlot) (maxL := 1) (ret := (some .boolean)) (by decide) rfl (Nat.le_of_ble_eq_true rfl) ?_
  intro p e s m below meth c ls hx hb hr hts hown hlocks hml hP hK hl
  have hl : lv_has ls 1 [(0, .int x)] := hl
  refine lv_iload_n hx hb dX4_isSlot_0 rfl (lv_at hl 0 rfl) ?_
  refine lv_if_lt (tgt := 13) hx hb dX4_isSlot_1 (by decide) (fun c1 => ?_) (fun c1 => ?_)
  · refine lv_iconst (v := 0) hx hb dX4_isSlot_13 (by decide) ?_
    exact wl_rz (r := 0) (False) hx hb hr hlocks (by rfl) (by exact (if_neg (by first | assumption | omega | simp [c1] | simp_all)).symm) dX4_isSlot_14
  · refine lv_iload_n hx hb dX4_isSlot_4 rfl (lv_at hl 0 rfl) ?_
    refine lv_iconst (v := 2) hx hb dX4_isSlot_5 (by decide) ?_
    refine lv_icmp_ge (tgt := 13) hx hb dX4_isSlot_6 (by decide) (fun c2 => ?_) (fun c2 => ?_)
    · refine lv_iconst (v := 0) hx hb dX4_isSlot_13 (by decide) ?_
      exact wl_rz (r := 0) (False) hx hb hr hlocks (by rfl) (by exact (if_neg (by first | assumption | omega | simp [c1, c2] | simp_all)).symm) dX4_isSlot_14
    · refine lv_iconst (v := 1) hx hb dX4_isSlot_9 (by decide) ?_
      refine lv_goto (tgt := 14) hx hb dX4_isSlot_10 (by decide) ?_
      exact wl_rz (r := 1) (True) hx hb hr hlocks (by rfl) (by exact (if_pos (by first | assumption | omega | simp [c1, c2] | simp_all)).symm) dX4_isSlot_14
set_option maxHeartbeats 4000000 in
set_option maxRecDepth 100000 in
theorem m_X4_isWord (l : Launch) (D : va_G) (cy : Nat → ClassId) (x : Int32)  : Met l yX4_isWord wsX4_isWord ({ frames := 0, cells := 0, slots := 0, locals := 0 } : Room) (wl_pc D cy [] [.int x]) (vp_Si (fun r : Int32 => r = if (¬ x < 0 ∧ ¬ 4095 < x) then 1 else 0)) 0 0 (fun _ => False) := by
  refine wl_ofP (cc := cX4_isWord) (maxL := 1) (ret := (some .boolean)) (by decide) rfl (Nat.le_of_ble_eq_true rfl) ?_
  intro p e s m below meth c ls hx hb hr hts hown hlocks hml hP hK hl
  have hl : lv_has ls 1 [(0, .int x)] := hl
  refine lv_iload_n hx hb dX4_isWord_0 rfl (lv_at hl 0 rfl) ?_
  refine lv_if_lt (tgt := 15) hx hb dX4_isWord_1 (by decide) (fun c1 => ?_) (fun c1 => ?_)
  · refine lv_iconst (v := 0) hx hb dX4_isWord_15 (by decide) ?_
    exact wl_rz (r := 0) (False) hx hb hr hlocks (by rfl) (by exact (if_neg (by first | assumption | omega | simp [c1] | simp_all)).symm) dX4_isWord_16
  · refine lv_iload_n hx hb dX4_isWord_4 rfl (lv_at hl 0 rfl) ?_
    refine lv_sipush (v := 4095) hx hb dX4_isWord_5 (by decide) ?_
    refine lv_icmp_gt (tgt := 15) hx hb dX4_isWord_8 (by decide) (fun c2 => ?_) (fun c2 => ?_)
    · refine lv_iconst (v := 0) hx hb dX4_isWord_15 (by decide) ?_
      exact wl_rz (r := 0) (False) hx hb hr hlocks (by rfl) (by exact (if_neg (by first | assumption | omega | simp [c1, c2] | simp_all)).symm) dX4_isWord_16
    · refine lv_iconst (v := 1) hx hb dX4_isWord_11 (by decide) ?_
      refine lv_goto (tgt := 16) hx hb dX4_isWord_12 (by decide) ?_
      exact wl_rz (r := 1) (True) hx hb hr hlocks (by rfl) (by exact (if_pos (by first | assumption | omega | simp [c1, c2] | simp_all)).symm) dX4_isWord_16
set_option maxHeartbeats 4000000 in
set_option maxRecDepth 100000 in
theorem m_X4_lampOf (l : Launch) (D : va_G) (cy : Nat → ClassId) (x : Nat) (sa ja ta : Nat → Nat) (h q : Nat) (v : Nat → Nat → Int32) (i k : Nat) (hi : i < 8) (hk : k < 8) : Met l yX4_lampOf wsX4_lampOf ({ frames := 2, cells := 0, slots := 0, locals := 44 } : Room) (wl_pc D cy [([(x, .inr (4, [.ref (sa 0), .ref (ja 0), .ref (ta 0), .ref h, .ref q]))] : va_W), stW cy sa v] [.ref x, .int (nI i), .int (nI k)]) (vp_Si (fun r : Int32 => r = q_lo v i k)) 0 0 (fun _ => False) := by
  refine wl_ofP (cc := cX4_lampOf) (maxL := 3) (ret := (some .int)) (by decide) rfl (Nat.le_of_ble_eq_true rfl) ?_
  intro p e s m below meth c ls hx hb hr hts hown hlocks hml hP hK hl
  have hl : lv_has ls 3 [(0, .ref x), (1, .int (nI i)), (2, .int (nI k))] := hl
  have lkf10 := hts (.fieldLink RX4 10 "WireLamps" "state" "LWireLamps$State;") (by decide +kernel)
  have lkf172 := hts (.fieldLink RX4 172 "WireLamps$State" "known" "[I") (by decide +kernel)
  have lkf175 := hts (.fieldLink RX4 175 "WireLamps$State" "shining" "[I") (by decide +kernel)
  have lkf188 := hts (.fieldLink RX4 188 "WireLamps$State" "came" "[I") (by decide +kernel)
  have lkf61 := hts (.fieldLink RX4 61 "WireLamps$State" "modes" "[I") (by decide +kernel)
  have lkf67 := hts (.fieldLink RX4 67 "WireLamps$State" "losses" "[I") (by decide +kernel)
  have in_X2 : ∀ w ∈ u_ws RX2 TX2 13, w ∈ wsX4_lampOf := by decide +kernel
  have in_X4 : ∀ w ∈ u_ws RX4 TX4 5, w ∈ wsX4_lampOf := by decide +kernel
  refine lv_iload_n hx hb dX4_lampOf_0 rfl (lv_at hl 1 rfl) ?_
  refine wl_pS (As := [.int (nI i)]) (rest := []) ⟨hx, hb, hml, hown, hts⟩ (m_X4_isLamp l D cy (nI i) ) (va_cwS 1 hts gX4_lampOf_X4_isLamp rfl rfl rfl (by decide +kernel) ⟨Nat.le_of_ble_eq_true rfl, Nat.le_of_ble_eq_true rfl⟩) hK hP [] rfl rfl hl.1 rfl (Nat.le_of_ble_eq_true rfl) dX4_lampOf_1 ⟨Nat.le_of_ble_eq_true rfl, Nat.le_of_ble_eq_true rfl⟩ (fun r1 er1 => ?_)
  have er1 : r1 = if (¬ (nI i) < 0 ∧ ¬ 8 ≤ (nI i)) then 1 else 0 := er1
  refine wl_b_ne (tgt := 17) hx hb (¬ (nI i) < 0 ∧ ¬ 8 ≤ (nI i)) er1 dX4_lampOf_4 (by decide) (fun c2 => ?_) (fun c2 => absurd (wl_rng (n := 8) rfl hi (by decide)) c2)
  refine lv_iload_n hx hb dX4_lampOf_17 rfl (lv_at hl 2 rfl) ?_
  rcases (show k = 0 ∨ k = 1 ∨ k = 2 ∨ k = 3 ∨ k = 4 ∨ k = 5 ∨ k = 6 ∨ k = 7 from by omega) with rfl | rfl | rfl | rfl | rfl | rfl | rfl | rfl
  · refine lv_tableIn (off := 46) (tgt := 64) hx hb dX4_lampOf_18 (by decide) (by decide) rfl (by decide) ?_
    refine lv_aload_n hx hb dX4_lampOf_64 rfl (lv_at hl 0 rfl) ?_
    refine wl_getf (C := RX4) (T := TX4) (N := 5) (ci := 4) (v := .ref (sa 0)) hx hb hts in_X4 hown hK hP 0 0 rfl rfl rfl 0 (by decide) lkf10 rfl rfl dX4_lampOf_65 ?_
    refine wl_getf (C := RX2) (T := TX2) (N := 13) (ci := 2) (v := .ref (sa 1)) hx hb hts in_X2 hown hK hP 1 0 rfl rfl rfl 0 (by decide) lkf61 rfl rfl dX4_lampOf_68 ?_
    refine lv_iload_n hx hb dX4_lampOf_71 rfl (lv_at hl 1 rfl) ?_
    refine wl_iald hx hb hK hP 1 1 rfl rfl i (by omega) (Nat.le_of_ble_eq_true rfl) dX4_lampOf_72 ?_
    exact wl_ri (r := (v 0 i)) hx hb hr hlocks (by rfl) dX4_lampOf_73
  · refine lv_tableIn (off := 56) (tgt := 74) hx hb dX4_lampOf_18 (by decide) (by decide) rfl (by decide) ?_
    refine lv_aload_n hx hb dX4_lampOf_74 rfl (lv_at hl 0 rfl) ?_
    refine wl_getf (C := RX4) (T := TX4) (N := 5) (ci := 4) (v := .ref (sa 0)) hx hb hts in_X4 hown hK hP 0 0 rfl rfl rfl 0 (by decide) lkf10 rfl rfl dX4_lampOf_75 ?_
    refine wl_getf (C := RX2) (T := TX2) (N := 13) (ci := 2) (v := .ref (sa 2)) hx hb hts in_X2 hown hK hP 1 0 rfl rfl rfl 1 (by decide) lkf67 rfl rfl dX4_lampOf_78 ?_
    refine lv_iload_n hx hb dX4_lampOf_81 rfl (lv_at hl 1 rfl) ?_
    refine wl_iald hx hb hK hP 1 2 rfl rfl i (by omega) (Nat.le_of_ble_eq_true rfl) dX4_lampOf_82 ?_
    exact wl_ri (r := (v 1 i)) hx hb hr hlocks (by rfl) dX4_lampOf_83
  · refine lv_tableIn (off := 66) (tgt := 84) hx hb dX4_lampOf_18 (by decide) (by decide) rfl (by decide) ?_
    refine lv_aload_n hx hb dX4_lampOf_84 rfl (lv_at hl 0 rfl) ?_
    refine wl_getf (C := RX4) (T := TX4) (N := 5) (ci := 4) (v := .ref (sa 0)) hx hb hts in_X4 hown hK hP 0 0 rfl rfl rfl 0 (by decide) lkf10 rfl rfl dX4_lampOf_85 ?_
    refine wl_getf (C := RX2) (T := TX2) (N := 13) (ci := 2) (v := .ref (sa 3)) hx hb hts in_X2 hown hK hP 1 0 rfl rfl rfl 2 (by decide) lkf172 rfl rfl dX4_lampOf_88 ?_
    refine lv_iload_n hx hb dX4_lampOf_91 rfl (lv_at hl 1 rfl) ?_
    refine wl_iald hx hb hK hP 1 3 rfl rfl i (by omega) (Nat.le_of_ble_eq_true rfl) dX4_lampOf_92 ?_
    exact wl_ri (r := (v 2 i)) hx hb hr hlocks (by rfl) dX4_lampOf_93
  · refine lv_tableIn (off := 76) (tgt := 94) hx hb dX4_lampOf_18 (by decide) (by decide) rfl (by decide) ?_
    refine lv_aload_n hx hb dX4_lampOf_94 rfl (lv_at hl 0 rfl) ?_
    refine wl_getf (C := RX4) (T := TX4) (N := 5) (ci := 4) (v := .ref (sa 0)) hx hb hts in_X4 hown hK hP 0 0 rfl rfl rfl 0 (by decide) lkf10 rfl rfl dX4_lampOf_95 ?_
    refine wl_getf (C := RX2) (T := TX2) (N := 13) (ci := 2) (v := .ref (sa 4)) hx hb hts in_X2 hown hK hP 1 0 rfl rfl rfl 3 (by decide) lkf175 rfl rfl dX4_lampOf_98 ?_
    refine lv_iload_n hx hb dX4_lampOf_101 rfl (lv_at hl 1 rfl) ?_
    refine wl_iald hx hb hK hP 1 4 rfl rfl i (by omega) (Nat.le_of_ble_eq_true rfl) dX4_lampOf_102 ?_
    exact wl_ri (r := (v 3 i)) hx hb hr hlocks (by rfl) dX4_lampOf_103
  · refine lv_tableIn (off := 86) (tgt := 104) hx hb dX4_lampOf_18 (by decide) (by decide) rfl (by decide) ?_
    refine lv_aload_n hx hb dX4_lampOf_104 rfl (lv_at hl 0 rfl) ?_
    refine wl_getf (C := RX4) (T := TX4) (N := 5) (ci := 4) (v := .ref (sa 0)) hx hb hts in_X4 hown hK hP 0 0 rfl rfl rfl 0 (by decide) lkf10 rfl rfl dX4_lampOf_105 ?_
    refine lv_aload_n hx hb dX4_lampOf_108 rfl (lv_at hl 0 rfl) ?_
    refine wl_getf (C := RX4) (T := TX4) (N := 5) (ci := 4) (v := .ref (sa 0)) hx hb hts in_X4 hown hK hP 0 0 rfl rfl rfl 0 (by decide) lkf10 rfl rfl dX4_lampOf_109 ?_
    refine wl_getf (C := RX2) (T := TX2) (N := 13) (ci := 2) (v := .ref (sa 4)) hx hb hts in_X2 hown hK hP 1 0 rfl rfl rfl 3 (by decide) lkf175 rfl rfl dX4_lampOf_112 ?_
    refine lv_iload_n hx hb dX4_lampOf_115 rfl (lv_at hl 1 rfl) ?_
    refine wl_iald hx hb hK hP 1 4 rfl rfl i (by omega) (Nat.le_of_ble_eq_true rfl) dX4_lampOf_116 ?_
    refine lv_iload_n hx hb dX4_lampOf_117 rfl (lv_at hl 2 rfl) ?_
    refine lv_iconst (v := 4) hx hb dX4_lampOf_118 (by decide) ?_
    refine lv_isub hx hb dX4_lampOf_119 ?_
    refine wl_top (y := nI 0) (pk_sub (a := 4) (b := 4) (by omega)) ?_
    refine wl_pS (As := [.int (v 3 i), .int (nI 0)]) (rest := [.ref (sa 0)]) ⟨hx, hb, hml, hown, hts⟩ (m_X2_brightnessOf l D cy (v 3 i) (nI 0) ) (va_cwS 2 hts gX4_lampOf_X2_brightnessOf rfl rfl rfl (by decide +kernel) ⟨Nat.le_of_ble_eq_true rfl, Nat.le_of_ble_eq_true rfl⟩) hK hP [] rfl rfl hl.1 rfl (Nat.le_of_ble_eq_true rfl) dX4_lampOf_120 ⟨Nat.le_of_ble_eq_true rfl, Nat.le_of_ble_eq_true rfl⟩ (fun r3 er3 => ?_)
    have er3 : r3 = q_br (v 3 i) (nI 0) := er3
    subst er3
    refine lv_aload_n hx hb dX4_lampOf_123 rfl (lv_at hl 0 rfl) ?_
    refine wl_getf (C := RX4) (T := TX4) (N := 5) (ci := 4) (v := .ref (sa 0)) hx hb hts in_X4 hown hK hP 0 0 rfl rfl rfl 0 (by decide) lkf10 rfl rfl dX4_lampOf_124 ?_
    refine wl_pV (As := []) (rest := [.int (q_br (v 3 i) (nI 0)), .ref (sa 0)]) ⟨hx, hb, hml, hown, hts⟩ (m_X2_currentWanted l D cy sa v ) (cwV 0 hts gX4_lampOf_X2_currentWanted rfl rfl rfl (by decide +kernel) ⟨Nat.le_of_ble_eq_true rfl, Nat.le_of_ble_eq_true rfl⟩) hK hP [1] rfl rfl rfl rfl rfl rfl hl.1 rfl (Nat.le_of_ble_eq_true rfl) dX4_lampOf_127 ⟨Nat.le_of_ble_eq_true rfl, Nat.le_of_ble_eq_true rfl⟩ (fun r4 er4 => ?_)
    have er4 : r4 = q_cw v := er4
    subst er4
    refine wl_pV (As := [.int (q_br (v 3 i) (nI 0)), .int (q_cw v)]) (rest := []) ⟨hx, hb, hml, hown, hts⟩ (m_X2_shown l D cy sa v (q_br (v 3 i) (nI 0)) (q_cw v) ) (cwV 2 hts gX4_lampOf_X2_shown rfl rfl rfl (by decide +kernel) ⟨Nat.le_of_ble_eq_true rfl, Nat.le_of_ble_eq_true rfl⟩) hK hP [1] rfl rfl rfl rfl rfl rfl hl.1 rfl (Nat.le_of_ble_eq_true rfl) dX4_lampOf_130 ⟨Nat.le_of_ble_eq_true rfl, Nat.le_of_ble_eq_true rfl⟩ (fun r5 er5 => ?_)
    have er5 : r5 = q_shn v (q_br (v 3 i) (nI 0)) (q_cw v) := er5
    subst er5
    exact wl_ri (r := (q_shn v (q_br (v 3 i) (nI 0)) (q_cw v))) hx hb hr hlocks (by rfl) dX4_lampOf_133
  · refine lv_tableIn (off := 86) (tgt := 104) hx hb dX4_lampOf_18 (by decide) (by decide) rfl (by decide) ?_
    refine lv_aload_n hx hb dX4_lampOf_104 rfl (lv_at hl 0 rfl) ?_
    refine wl_getf (C := RX4) (T := TX4) (N := 5) (ci := 4) (v := .ref (sa 0)) hx hb hts in_X4 hown hK hP 0 0 rfl rfl rfl 0 (by decide) lkf10 rfl rfl dX4_lampOf_105 ?_
    refine lv_aload_n hx hb dX4_lampOf_108 rfl (lv_at hl 0 rfl) ?_
    refine wl_getf (C := RX4) (T := TX4) (N := 5) (ci := 4) (v := .ref (sa 0)) hx hb hts in_X4 hown hK hP 0 0 rfl rfl rfl 0 (by decide) lkf10 rfl rfl dX4_lampOf_109 ?_
    refine wl_getf (C := RX2) (T := TX2) (N := 13) (ci := 2) (v := .ref (sa 4)) hx hb hts in_X2 hown hK hP 1 0 rfl rfl rfl 3 (by decide) lkf175 rfl rfl dX4_lampOf_112 ?_
    refine lv_iload_n hx hb dX4_lampOf_115 rfl (lv_at hl 1 rfl) ?_
    refine wl_iald hx hb hK hP 1 4 rfl rfl i (by omega) (Nat.le_of_ble_eq_true rfl) dX4_lampOf_116 ?_
    refine lv_iload_n hx hb dX4_lampOf_117 rfl (lv_at hl 2 rfl) ?_
    refine lv_iconst (v := 4) hx hb dX4_lampOf_118 (by decide) ?_
    refine lv_isub hx hb dX4_lampOf_119 ?_
    refine wl_top (y := nI 1) (pk_sub (a := 5) (b := 4) (by omega)) ?_
    refine wl_pS (As := [.int (v 3 i), .int (nI 1)]) (rest := [.ref (sa 0)]) ⟨hx, hb, hml, hown, hts⟩ (m_X2_brightnessOf l D cy (v 3 i) (nI 1) ) (va_cwS 2 hts gX4_lampOf_X2_brightnessOf rfl rfl rfl (by decide +kernel) ⟨Nat.le_of_ble_eq_true rfl, Nat.le_of_ble_eq_true rfl⟩) hK hP [] rfl rfl hl.1 rfl (Nat.le_of_ble_eq_true rfl) dX4_lampOf_120 ⟨Nat.le_of_ble_eq_true rfl, Nat.le_of_ble_eq_true rfl⟩ (fun r6 er6 => ?_)
    have er6 : r6 = q_br (v 3 i) (nI 1) := er6
    subst er6
    refine lv_aload_n hx hb dX4_lampOf_123 rfl (lv_at hl 0 rfl) ?_
    refine wl_getf (C := RX4) (T := TX4) (N := 5) (ci := 4) (v := .ref (sa 0)) hx hb hts in_X4 hown hK hP 0 0 rfl rfl rfl 0 (by decide) lkf10 rfl rfl dX4_lampOf_124 ?_
    refine wl_pV (As := []) (rest := [.int (q_br (v 3 i) (nI 1)), .ref (sa 0)]) ⟨hx, hb, hml, hown, hts⟩ (m_X2_currentWanted l D cy sa v ) (cwV 0 hts gX4_lampOf_X2_currentWanted rfl rfl rfl (by decide +kernel) ⟨Nat.le_of_ble_eq_true rfl, Nat.le_of_ble_eq_true rfl⟩) hK hP [1] rfl rfl rfl rfl rfl rfl hl.1 rfl (Nat.le_of_ble_eq_true rfl) dX4_lampOf_127 ⟨Nat.le_of_ble_eq_true rfl, Nat.le_of_ble_eq_true rfl⟩ (fun r7 er7 => ?_)
    have er7 : r7 = q_cw v := er7
    subst er7
    refine wl_pV (As := [.int (q_br (v 3 i) (nI 1)), .int (q_cw v)]) (rest := []) ⟨hx, hb, hml, hown, hts⟩ (m_X2_shown l D cy sa v (q_br (v 3 i) (nI 1)) (q_cw v) ) (cwV 2 hts gX4_lampOf_X2_shown rfl rfl rfl (by decide +kernel) ⟨Nat.le_of_ble_eq_true rfl, Nat.le_of_ble_eq_true rfl⟩) hK hP [1] rfl rfl rfl rfl rfl rfl hl.1 rfl (Nat.le_of_ble_eq_true rfl) dX4_lampOf_130 ⟨Nat.le_of_ble_eq_true rfl, Nat.le_of_ble_eq_true rfl⟩ (fun r8 er8 => ?_)
    have er8 : r8 = q_shn v (q_br (v 3 i) (nI 1)) (q_cw v) := er8
    subst er8
    exact wl_ri (r := (q_shn v (q_br (v 3 i) (nI 1)) (q_cw v))) hx hb hr hlocks (by rfl) dX4_lampOf_133
  · refine lv_tableIn (off := 86) (tgt := 104) hx hb dX4_lampOf_18 (by decide) (by decide) rfl (by decide) ?_
    refine lv_aload_n hx hb dX4_lampOf_104 rfl (lv_at hl 0 rfl) ?_
    refine wl_getf (C := RX4) (T := TX4) (N := 5) (ci := 4) (v := .ref (sa 0)) hx hb hts in_X4 hown hK hP 0 0 rfl rfl rfl 0 (by decide) lkf10 rfl rfl dX4_lampOf_105 ?_
    refine lv_aload_n hx hb dX4_lampOf_108 rfl (lv_at hl 0 rfl) ?_
    refine wl_getf (C := RX4) (T := TX4) (N := 5) (ci := 4) (v := .ref (sa 0)) hx hb hts in_X4 hown hK hP 0 0 rfl rfl rfl 0 (by decide) lkf10 rfl rfl dX4_lampOf_109 ?_
    refine wl_getf (C := RX2) (T := TX2) (N := 13) (ci := 2) (v := .ref (sa 4)) hx hb hts in_X2 hown hK hP 1 0 rfl rfl rfl 3 (by decide) lkf175 rfl rfl dX4_lampOf_112 ?_
    refine lv_iload_n hx hb dX4_lampOf_115 rfl (lv_at hl 1 rfl) ?_
    refine wl_iald hx hb hK hP 1 4 rfl rfl i (by omega) (Nat.le_of_ble_eq_true rfl) dX4_lampOf_116 ?_
    refine lv_iload_n hx hb dX4_lampOf_117 rfl (lv_at hl 2 rfl) ?_
    refine lv_iconst (v := 4) hx hb dX4_lampOf_118 (by decide) ?_
    refine lv_isub hx hb dX4_lampOf_119 ?_
    refine wl_top (y := nI 2) (pk_sub (a := 6) (b := 4) (by omega)) ?_
    refine wl_pS (As := [.int (v 3 i), .int (nI 2)]) (rest := [.ref (sa 0)]) ⟨hx, hb, hml, hown, hts⟩ (m_X2_brightnessOf l D cy (v 3 i) (nI 2) ) (va_cwS 2 hts gX4_lampOf_X2_brightnessOf rfl rfl rfl (by decide +kernel) ⟨Nat.le_of_ble_eq_true rfl, Nat.le_of_ble_eq_true rfl⟩) hK hP [] rfl rfl hl.1 rfl (Nat.le_of_ble_eq_true rfl) dX4_lampOf_120 ⟨Nat.le_of_ble_eq_true rfl, Nat.le_of_ble_eq_true rfl⟩ (fun r9 er9 => ?_)
    have er9 : r9 = q_br (v 3 i) (nI 2) := er9
    subst er9
    refine lv_aload_n hx hb dX4_lampOf_123 rfl (lv_at hl 0 rfl) ?_
    refine wl_getf (C := RX4) (T := TX4) (N := 5) (ci := 4) (v := .ref (sa 0)) hx hb hts in_X4 hown hK hP 0 0 rfl rfl rfl 0 (by decide) lkf10 rfl rfl dX4_lampOf_124 ?_
    refine wl_pV (As := []) (rest := [.int (q_br (v 3 i) (nI 2)), .ref (sa 0)]) ⟨hx, hb, hml, hown, hts⟩ (m_X2_currentWanted l D cy sa v ) (cwV 0 hts gX4_lampOf_X2_currentWanted rfl rfl rfl (by decide +kernel) ⟨Nat.le_of_ble_eq_true rfl, Nat.le_of_ble_eq_true rfl⟩) hK hP [1] rfl rfl rfl rfl rfl rfl hl.1 rfl (Nat.le_of_ble_eq_true rfl) dX4_lampOf_127 ⟨Nat.le_of_ble_eq_true rfl, Nat.le_of_ble_eq_true rfl⟩ (fun r10 er10 => ?_)
    have er10 : r10 = q_cw v := er10
    subst er10
    refine wl_pV (As := [.int (q_br (v 3 i) (nI 2)), .int (q_cw v)]) (rest := []) ⟨hx, hb, hml, hown, hts⟩ (m_X2_shown l D cy sa v (q_br (v 3 i) (nI 2)) (q_cw v) ) (cwV 2 hts gX4_lampOf_X2_shown rfl rfl rfl (by decide +kernel) ⟨Nat.le_of_ble_eq_true rfl, Nat.le_of_ble_eq_true rfl⟩) hK hP [1] rfl rfl rfl rfl rfl rfl hl.1 rfl (Nat.le_of_ble_eq_true rfl) dX4_lampOf_130 ⟨Nat.le_of_ble_eq_true rfl, Nat.le_of_ble_eq_true rfl⟩ (fun r11 er11 => ?_)
    have er11 : r11 = q_shn v (q_br (v 3 i) (nI 2)) (q_cw v) := er11
    subst er11
    exact wl_ri (r := (q_shn v (q_br (v 3 i) (nI 2)) (q_cw v))) hx hb hr hlocks (by rfl) dX4_lampOf_133
  · refine lv_tableIn (off := 116) (tgt := 134) hx hb dX4_lampOf_18 (by decide) (by decide) rfl (by decide) ?_
    refine lv_aload_n hx hb dX4_lampOf_134 rfl (lv_at hl 0 rfl) ?_
    refine wl_getf (C := RX4) (T := TX4) (N := 5) (ci := 4) (v := .ref (sa 0)) hx hb hts in_X4 hown hK hP 0 0 rfl rfl rfl 0 (by decide) lkf10 rfl rfl dX4_lampOf_135 ?_
    refine wl_getf (C := RX2) (T := TX2) (N := 13) (ci := 2) (v := .ref (sa 5)) hx hb hts in_X2 hown hK hP 1 0 rfl rfl rfl 4 (by decide) lkf188 rfl rfl dX4_lampOf_138 ?_
    refine lv_iload_n hx hb dX4_lampOf_141 rfl (lv_at hl 1 rfl) ?_
    refine wl_iald hx hb hK hP 1 5 rfl rfl i (by omega) (Nat.le_of_ble_eq_true rfl) dX4_lampOf_142 ?_
    exact wl_ri (r := (v 4 i)) hx hb hr hlocks (by rfl) dX4_lampOf_143
set_option maxHeartbeats 4000000 in
set_option maxRecDepth 100000 in
theorem m_X4_count (l : Launch) (D : va_G) (cy : Nat → ClassId) (x : Nat) (sa ja ta : Nat → Nat) (h q : Nat) (v : Nat → Nat → Int32) (z k : Nat) (g : Nat) (hk : k < 11) : Met l yX4_count wsX4_count ({ frames := 3, cells := 0, slots := 0, locals := 68 } : Room) (wl_pc D cy [([(x, .inr (4, [.ref (sa 0), .ref (ja 0), .ref (ta 0), .ref h, .ref q]))] : va_W), stW cy sa v, ([(h, .inr (0, [.ref g, .int (nI z)]))] : va_W)] [.ref x, .int (nI k)]) (vp_Si (fun r : Int32 => r = q_co v z k)) 0 0 (fun _ => False) := by
  refine wl_ofP (cc := cX4_count) (maxL := 2) (ret := (some .int)) (by decide) rfl (Nat.le_of_ble_eq_true rfl) ?_
  intro p e s m below meth c ls hx hb hr hts hown hlocks hml hP hK hl
  have hl : lv_has ls 2 [(0, .ref x), (1, .int (nI k))] := hl
  have lkf10 := hts (.fieldLink RX4 10 "WireLamps" "state" "LWireLamps$State;") (by decide +kernel)
  have lkf114 := hts (.fieldLink RX4 114 "WireLamps$State" "dropped" "I") (by decide +kernel)
  have lkf169 := hts (.fieldLink RX4 169 "WireLamps$History" "size" "I") (by decide +kernel)
  have lkf198 := hts (.fieldLink RX4 198 "WireLamps$State" "gaps" "I") (by decide +kernel)
  have lkf201 := hts (.fieldLink RX4 201 "WireLamps$State" "taken" "I") (by decide +kernel)
  have lkf204 := hts (.fieldLink RX4 204 "WireLamps$State" "lost" "I") (by decide +kernel)
  have lkf213 := hts (.fieldLink RX4 213 "WireLamps$State" "refused" "I") (by decide +kernel)
  have lkf33 := hts (.fieldLink RX4 33 "WireLamps" "history" "LWireLamps$History;") (by decide +kernel)
  have lkf99 := hts (.fieldLink RX4 99 "WireLamps$State" "pulseCount" "I") (by decide +kernel)
  have in_X0 : ∀ w ∈ u_ws RX0 TX0 2, w ∈ wsX4_count := by decide +kernel
  have in_X2 : ∀ w ∈ u_ws RX2 TX2 13, w ∈ wsX4_count := by decide +kernel
  have in_X4 : ∀ w ∈ u_ws RX4 TX4 5, w ∈ wsX4_count := by decide +kernel
  refine lv_iload_n hx hb dX4_count_0 rfl (lv_at hl 1 rfl) ?_
  rcases (show k = 0 ∨ k = 1 ∨ k = 2 ∨ k = 3 ∨ k = 4 ∨ k = 5 ∨ k = 6 ∨ k = 7 ∨ k = 8 ∨ k = 9 ∨ k = 10 from by omega) with rfl | rfl | rfl | rfl | rfl | rfl | rfl | rfl | rfl | rfl | rfl
  · refine lv_tableIn (off := 59) (tgt := 60) hx hb dX4_count_1 (by decide) (by decide) rfl (by decide) ?_
    refine lv_aload_n hx hb dX4_count_60 rfl (lv_at hl 0 rfl) ?_
    refine wl_getf (C := RX4) (T := TX4) (N := 5) (ci := 4) (v := .ref (sa 0)) hx hb hts in_X4 hown hK hP 0 0 rfl rfl rfl 0 (by decide) lkf10 rfl rfl dX4_count_61 ?_
    refine wl_getf (C := RX2) (T := TX2) (N := 13) (ci := 2) (v := .int (v 7 0)) hx hb hts in_X2 hown hK hP 1 0 rfl rfl rfl 7 (by decide) lkf99 rfl rfl dX4_count_64 ?_
    exact wl_ri (r := (v 7 0)) hx hb hr hlocks (by rfl) dX4_count_67
  · refine lv_tableIn (off := 67) (tgt := 68) hx hb dX4_count_1 (by decide) (by decide) rfl (by decide) ?_
    refine lv_aload_n hx hb dX4_count_68 rfl (lv_at hl 0 rfl) ?_
    refine wl_getf (C := RX4) (T := TX4) (N := 5) (ci := 4) (v := .ref (sa 0)) hx hb hts in_X4 hown hK hP 0 0 rfl rfl rfl 0 (by decide) lkf10 rfl rfl dX4_count_69 ?_
    refine wl_getf (C := RX2) (T := TX2) (N := 13) (ci := 2) (v := .int (v 7 1)) hx hb hts in_X2 hown hK hP 1 0 rfl rfl rfl 8 (by decide) lkf198 rfl rfl dX4_count_72 ?_
    exact wl_ri (r := (v 7 1)) hx hb hr hlocks (by rfl) dX4_count_75
  · refine lv_tableIn (off := 75) (tgt := 76) hx hb dX4_count_1 (by decide) (by decide) rfl (by decide) ?_
    refine lv_aload_n hx hb dX4_count_76 rfl (lv_at hl 0 rfl) ?_
    refine wl_getf (C := RX4) (T := TX4) (N := 5) (ci := 4) (v := .ref (sa 0)) hx hb hts in_X4 hown hK hP 0 0 rfl rfl rfl 0 (by decide) lkf10 rfl rfl dX4_count_77 ?_
    refine wl_getf (C := RX2) (T := TX2) (N := 13) (ci := 2) (v := .int (v 7 2)) hx hb hts in_X2 hown hK hP 1 0 rfl rfl rfl 9 (by decide) lkf201 rfl rfl dX4_count_80 ?_
    refine lv_aload_n hx hb dX4_count_83 rfl (lv_at hl 0 rfl) ?_
    refine wl_getf (C := RX4) (T := TX4) (N := 5) (ci := 4) (v := .ref (sa 0)) hx hb hts in_X4 hown hK hP 0 0 rfl rfl rfl 0 (by decide) lkf10 rfl rfl dX4_count_84 ?_
    refine wl_getf (C := RX2) (T := TX2) (N := 13) (ci := 2) (v := .int (v 7 3)) hx hb hts in_X2 hown hK hP 1 0 rfl rfl rfl 10 (by decide) lkf204 rfl rfl dX4_count_87 ?_
    refine lv_iadd hx hb dX4_count_90 ?_
    refine lv_aload_n hx hb dX4_count_91 rfl (lv_at hl 0 rfl) ?_
    refine wl_getf (C := RX4) (T := TX4) (N := 5) (ci := 4) (v := .ref (sa 0)) hx hb hts in_X4 hown hK hP 0 0 rfl rfl rfl 0 (by decide) lkf10 rfl rfl dX4_count_92 ?_
    refine wl_getf (C := RX2) (T := TX2) (N := 13) (ci := 2) (v := .int (v 7 4)) hx hb hts in_X2 hown hK hP 1 0 rfl rfl rfl 11 (by decide) lkf114 rfl rfl dX4_count_95 ?_
    refine lv_iadd hx hb dX4_count_98 ?_
    refine lv_aload_n hx hb dX4_count_99 rfl (lv_at hl 0 rfl) ?_
    refine wl_getf (C := RX4) (T := TX4) (N := 5) (ci := 4) (v := .ref (sa 0)) hx hb hts in_X4 hown hK hP 0 0 rfl rfl rfl 0 (by decide) lkf10 rfl rfl dX4_count_100 ?_
    refine wl_getf (C := RX2) (T := TX2) (N := 13) (ci := 2) (v := .int (v 7 0)) hx hb hts in_X2 hown hK hP 1 0 rfl rfl rfl 7 (by decide) lkf99 rfl rfl dX4_count_103 ?_
    refine lv_iadd hx hb dX4_count_106 ?_
    exact wl_ri (r := ((((v 7 2) + (v 7 3)) + (v 7 4)) + (v 7 0))) hx hb hr hlocks (by rfl) dX4_count_107
  · refine lv_tableIn (off := 107) (tgt := 108) hx hb dX4_count_1 (by decide) (by decide) rfl (by decide) ?_
    refine lv_aload_n hx hb dX4_count_108 rfl (lv_at hl 0 rfl) ?_
    refine wl_getf (C := RX4) (T := TX4) (N := 5) (ci := 4) (v := .ref (sa 0)) hx hb hts in_X4 hown hK hP 0 0 rfl rfl rfl 0 (by decide) lkf10 rfl rfl dX4_count_109 ?_
    refine wl_getf (C := RX2) (T := TX2) (N := 13) (ci := 2) (v := .int (v 7 2)) hx hb hts in_X2 hown hK hP 1 0 rfl rfl rfl 9 (by decide) lkf201 rfl rfl dX4_count_112 ?_
    exact wl_ri (r := (v 7 2)) hx hb hr hlocks (by rfl) dX4_count_115
  · refine lv_tableIn (off := 115) (tgt := 116) hx hb dX4_count_1 (by decide) (by decide) rfl (by decide) ?_
    refine lv_aload_n hx hb dX4_count_116 rfl (lv_at hl 0 rfl) ?_
    refine wl_getf (C := RX4) (T := TX4) (N := 5) (ci := 4) (v := .ref (sa 0)) hx hb hts in_X4 hown hK hP 0 0 rfl rfl rfl 0 (by decide) lkf10 rfl rfl dX4_count_117 ?_
    refine wl_getf (C := RX2) (T := TX2) (N := 13) (ci := 2) (v := .int (v 7 3)) hx hb hts in_X2 hown hK hP 1 0 rfl rfl rfl 10 (by decide) lkf204 rfl rfl dX4_count_120 ?_
    exact wl_ri (r := (v 7 3)) hx hb hr hlocks (by rfl) dX4_count_123
  · refine lv_tableIn (off := 123) (tgt := 124) hx hb dX4_count_1 (by decide) (by decide) rfl (by decide) ?_
    refine lv_aload_n hx hb dX4_count_124 rfl (lv_at hl 0 rfl) ?_
    refine wl_getf (C := RX4) (T := TX4) (N := 5) (ci := 4) (v := .ref (sa 0)) hx hb hts in_X4 hown hK hP 0 0 rfl rfl rfl 0 (by decide) lkf10 rfl rfl dX4_count_125 ?_
    refine wl_getf (C := RX2) (T := TX2) (N := 13) (ci := 2) (v := .int (v 7 4)) hx hb hts in_X2 hown hK hP 1 0 rfl rfl rfl 11 (by decide) lkf114 rfl rfl dX4_count_128 ?_
    exact wl_ri (r := (v 7 4)) hx hb hr hlocks (by rfl) dX4_count_131
  · refine lv_tableIn (off := 131) (tgt := 132) hx hb dX4_count_1 (by decide) (by decide) rfl (by decide) ?_
    refine lv_aload_n hx hb dX4_count_132 rfl (lv_at hl 0 rfl) ?_
    refine wl_getf (C := RX4) (T := TX4) (N := 5) (ci := 4) (v := .ref (sa 0)) hx hb hts in_X4 hown hK hP 0 0 rfl rfl rfl 0 (by decide) lkf10 rfl rfl dX4_count_133 ?_
    refine wl_pV (As := []) (rest := []) ⟨hx, hb, hml, hown, hts⟩ (m_X2_currentWanted l D cy sa v ) (cwV 0 hts gX4_count_X2_currentWanted rfl rfl rfl (by decide +kernel) ⟨Nat.le_of_ble_eq_true rfl, Nat.le_of_ble_eq_true rfl⟩) hK hP [1] rfl rfl rfl rfl rfl rfl hl.1 rfl (Nat.le_of_ble_eq_true rfl) dX4_count_136 ⟨Nat.le_of_ble_eq_true rfl, Nat.le_of_ble_eq_true rfl⟩ (fun r1 er1 => ?_)
    have er1 : r1 = q_cw v := er1
    subst er1
    exact wl_ri (r := (q_cw v)) hx hb hr hlocks (by rfl) dX4_count_139
  · refine lv_tableIn (off := 139) (tgt := 140) hx hb dX4_count_1 (by decide) (by decide) rfl (by decide) ?_
    refine lv_aload_n hx hb dX4_count_140 rfl (lv_at hl 0 rfl) ?_
    refine wl_getf (C := RX4) (T := TX4) (N := 5) (ci := 4) (v := .ref (sa 0)) hx hb hts in_X4 hown hK hP 0 0 rfl rfl rfl 0 (by decide) lkf10 rfl rfl dX4_count_141 ?_
    refine wl_pV (As := []) (rest := []) ⟨hx, hb, hml, hown, hts⟩ (m_X2_shownTogether l D cy sa v ) (cwV 0 hts gX4_count_X2_shownTogether rfl rfl rfl (by decide +kernel) ⟨Nat.le_of_ble_eq_true rfl, Nat.le_of_ble_eq_true rfl⟩) hK hP [1] rfl rfl rfl rfl rfl rfl hl.1 rfl (Nat.le_of_ble_eq_true rfl) dX4_count_144 ⟨Nat.le_of_ble_eq_true rfl, Nat.le_of_ble_eq_true rfl⟩ (fun r2 er2 => ?_)
    have er2 : r2 = q_st v := er2
    subst er2
    exact wl_ri (r := (q_st v)) hx hb hr hlocks (by rfl) dX4_count_147
  · refine lv_tableIn (off := 147) (tgt := 148) hx hb dX4_count_1 (by decide) (by decide) rfl (by decide) ?_
    refine lv_aload_n hx hb dX4_count_148 rfl (lv_at hl 0 rfl) ?_
    refine wl_getf (C := RX4) (T := TX4) (N := 5) (ci := 4) (v := .ref (sa 0)) hx hb hts in_X4 hown hK hP 0 0 rfl rfl rfl 0 (by decide) lkf10 rfl rfl dX4_count_149 ?_
    refine wl_pV (As := []) (rest := []) ⟨hx, hb, hml, hown, hts⟩ (m_X2_lampsThatShine l D cy sa v ) (cwV 0 hts gX4_count_X2_lampsThatShine rfl rfl rfl (by decide +kernel) ⟨Nat.le_of_ble_eq_true rfl, Nat.le_of_ble_eq_true rfl⟩) hK hP [1] rfl rfl rfl rfl rfl rfl hl.1 rfl (Nat.le_of_ble_eq_true rfl) dX4_count_152 ⟨Nat.le_of_ble_eq_true rfl, Nat.le_of_ble_eq_true rfl⟩ (fun r3 er3 => ?_)
    have er3 : r3 = q_cnt (v 3) 8 := er3
    subst er3
    exact wl_ri (r := (q_cnt (v 3) 8)) hx hb hr hlocks (by rfl) dX4_count_155
  · refine lv_tableIn (off := 155) (tgt := 156) hx hb dX4_count_1 (by decide) (by decide) rfl (by decide) ?_
    refine lv_aload_n hx hb dX4_count_156 rfl (lv_at hl 0 rfl) ?_
    refine wl_getf (C := RX4) (T := TX4) (N := 5) (ci := 4) (v := .ref (sa 0)) hx hb hts in_X4 hown hK hP 0 0 rfl rfl rfl 0 (by decide) lkf10 rfl rfl dX4_count_157 ?_
    refine wl_getf (C := RX2) (T := TX2) (N := 13) (ci := 2) (v := .int (v 7 5)) hx hb hts in_X2 hown hK hP 1 0 rfl rfl rfl 12 (by decide) lkf213 rfl rfl dX4_count_160 ?_
    exact wl_ri (r := (v 7 5)) hx hb hr hlocks (by rfl) dX4_count_163
  · refine lv_tableIn (off := 163) (tgt := 164) hx hb dX4_count_1 (by decide) (by decide) rfl (by decide) ?_
    refine lv_aload_n hx hb dX4_count_164 rfl (lv_at hl 0 rfl) ?_
    refine wl_getf (C := RX4) (T := TX4) (N := 5) (ci := 4) (v := .ref h) hx hb hts in_X4 hown hK hP 0 0 rfl rfl rfl 3 (by decide) lkf33 rfl rfl dX4_count_165 ?_
    refine wl_getf (C := RX0) (T := TX0) (N := 2) (ci := 0) (v := .int (nI z)) hx hb hts in_X0 hown hK hP 2 0 rfl rfl rfl 1 (by decide) lkf169 rfl rfl dX4_count_168 ?_
    exact wl_ri (r := (nI z)) hx hb hr hlocks (by rfl) dX4_count_171
set_option maxHeartbeats 4000000 in
set_option maxRecDepth 100000 in
theorem m_X4_wrong (l : Launch) (D : va_G) (cy : Nat → ClassId) (x : Nat) (sa ja ta : Nat → Nat) (h q : Nat) (v : Nat → Nat → Int32) (k : Nat) (hk : k ≤ 4095) : Met l yX4_wrong wsX4_wrong ({ frames := 3, cells := 0, slots := 0, locals := 72 } : Room) (wl_pc D cy [([(x, .inr (4, [.ref (sa 0), .ref (ja 0), .ref (ta 0), .ref h, .ref q]))] : va_W), stW cy sa v] [.ref x, .int (nI k)]) (vp_Si (fun r : Int32 => r = q_wm v (q_el v (-1) 0) (nI k) 8)) 0 0 (fun _ => False) := by
  refine wl_ofP (cc := cX4_wrong) (maxL := 2) (ret := (some .int)) (by decide) rfl (Nat.le_of_ble_eq_true rfl) ?_
  intro p e s m below meth c ls hx hb hr hts hown hlocks hml hP hK hl
  have hl : lv_has ls 2 [(0, .ref x), (1, .int (nI k))] := hl
  have lkf10 := hts (.fieldLink RX4 10 "WireLamps" "state" "LWireLamps$State;") (by decide +kernel)
  have in_X4 : ∀ w ∈ u_ws RX4 TX4 5, w ∈ wsX4_wrong := by decide +kernel
  refine lv_iload_n hx hb dX4_wrong_0 rfl (lv_at hl 1 rfl) ?_
  refine wl_pS (As := [.int (nI k)]) (rest := []) ⟨hx, hb, hml, hown, hts⟩ (m_X4_isWord l D cy (nI k) ) (va_cwS 1 hts gX4_wrong_X4_isWord rfl rfl rfl (by decide +kernel) ⟨Nat.le_of_ble_eq_true rfl, Nat.le_of_ble_eq_true rfl⟩) hK hP [] rfl rfl hl.1 rfl (Nat.le_of_ble_eq_true rfl) dX4_wrong_1 ⟨Nat.le_of_ble_eq_true rfl, Nat.le_of_ble_eq_true rfl⟩ (fun r1 er1 => ?_)
  have er1 : r1 = if (¬ (nI k) < 0 ∧ ¬ 4095 < (nI k)) then 1 else 0 := er1
  refine wl_b_ne (tgt := 17) hx hb (¬ (nI k) < 0 ∧ ¬ 4095 < (nI k)) er1 dX4_wrong_4 (by decide) (fun c2 => ?_) (fun c2 => absurd (wl_rngW (n := 4095) rfl hk (by decide)) c2)
  refine lv_aload_n hx hb dX4_wrong_17 rfl (lv_at hl 0 rfl) ?_
  refine wl_getf (C := RX4) (T := TX4) (N := 5) (ci := 4) (v := .ref (sa 0)) hx hb hts in_X4 hown hK hP 0 0 rfl rfl rfl 0 (by decide) lkf10 rfl rfl dX4_wrong_18 ?_
  refine lv_iload_n hx hb dX4_wrong_21 rfl (lv_at hl 1 rfl) ?_
  refine lv_iconst (v := (-1)) hx hb dX4_wrong_22 (by decide) ?_
  refine lv_iconst (v := 0) hx hb dX4_wrong_23 (by decide) ?_
  refine wl_pV (As := [.int (nI k), .int (-1), .int 0]) (rest := []) ⟨hx, hb, hml, hown, hts⟩ (m_X2_wrongWith l D cy sa v (nI k) (-1) 0 ) (cwV 3 hts gX4_wrong_X2_wrongWith rfl rfl rfl (by decide +kernel) ⟨Nat.le_of_ble_eq_true rfl, Nat.le_of_ble_eq_true rfl⟩) hK hP [1] rfl rfl rfl rfl rfl rfl hl.1 rfl (Nat.le_of_ble_eq_true rfl) dX4_wrong_24 ⟨Nat.le_of_ble_eq_true rfl, Nat.le_of_ble_eq_true rfl⟩ (fun r3 er3 => ?_)
  have er3 : r3 = q_wm v (q_el v (-1) 0) (nI k) 8 := er3
  subst er3
  exact wl_ri (r := (q_wm v (q_el v (-1) 0) (nI k) 8)) hx hb hr hlocks (by rfl) dX4_wrong_27
set_option maxHeartbeats 4000000 in
set_option maxRecDepth 100000 in
theorem m_X4_setting (l : Launch) (D : va_G) (cy : Nat → ClassId) (x : Nat) (sa ja ta : Nat → Nat) (h q : Nat) (v : Nat → Nat → Int32) (i : Nat) (hi : i < 3) : Met l yX4_setting wsX4_setting ({ frames := 1, cells := 0, slots := 0, locals := 20 } : Room) (wl_pc D cy [([(x, .inr (4, [.ref (sa 0), .ref (ja 0), .ref (ta 0), .ref h, .ref q]))] : va_W), stW cy sa v] [.ref x, .int (nI i)]) (vp_Si (fun r : Int32 => r = v 5 i)) 0 0 (fun _ => False) := by
  refine wl_ofP (cc := cX4_setting) (maxL := 2) (ret := (some .int)) (by decide) rfl (Nat.le_of_ble_eq_true rfl) ?_
  intro p e s m below meth c ls hx hb hr hts hown hlocks hml hP hK hl
  have hl : lv_has ls 2 [(0, .ref x), (1, .int (nI i))] := hl
  have lkf10 := hts (.fieldLink RX4 10 "WireLamps" "state" "LWireLamps$State;") (by decide +kernel)
  have lkf83 := hts (.fieldLink RX4 83 "WireLamps$State" "settings" "[I") (by decide +kernel)
  have in_X2 : ∀ w ∈ u_ws RX2 TX2 13, w ∈ wsX4_setting := by decide +kernel
  have in_X4 : ∀ w ∈ u_ws RX4 TX4 5, w ∈ wsX4_setting := by decide +kernel
  refine lv_iload_n hx hb dX4_setting_0 rfl (lv_at hl 1 rfl) ?_
  refine wl_pS (As := [.int (nI i)]) (rest := []) ⟨hx, hb, hml, hown, hts⟩ (m_X4_isSetting l D cy (nI i) ) (va_cwS 1 hts gX4_setting_X4_isSetting rfl rfl rfl (by decide +kernel) ⟨Nat.le_of_ble_eq_true rfl, Nat.le_of_ble_eq_true rfl⟩) hK hP [] rfl rfl hl.1 rfl (Nat.le_of_ble_eq_true rfl) dX4_setting_1 ⟨Nat.le_of_ble_eq_true rfl, Nat.le_of_ble_eq_true rfl⟩ (fun r1 er1 => ?_)
  have er1 : r1 = if (¬ (nI i) < 0 ∧ ¬ 3 ≤ (nI i)) then 1 else 0 := er1
  refine wl_b_ne (tgt := 17) hx hb (¬ (nI i) < 0 ∧ ¬ 3 ≤ (nI i)) er1 dX4_setting_4 (by decide) (fun c2 => ?_) (fun c2 => absurd (wl_rng (n := 3) rfl hi (by decide)) c2)
  refine lv_aload_n hx hb dX4_setting_17 rfl (lv_at hl 0 rfl) ?_
  refine wl_getf (C := RX4) (T := TX4) (N := 5) (ci := 4) (v := .ref (sa 0)) hx hb hts in_X4 hown hK hP 0 0 rfl rfl rfl 0 (by decide) lkf10 rfl rfl dX4_setting_18 ?_
  refine wl_getf (C := RX2) (T := TX2) (N := 13) (ci := 2) (v := .ref (sa 6)) hx hb hts in_X2 hown hK hP 1 0 rfl rfl rfl 5 (by decide) lkf83 rfl rfl dX4_setting_21 ?_
  refine lv_iload_n hx hb dX4_setting_24 rfl (lv_at hl 1 rfl) ?_
  refine wl_iald hx hb hK hP 1 6 rfl rfl i (by omega) (Nat.le_of_ble_eq_true rfl) dX4_setting_25 ?_
  exact wl_ri (r := (v 5 i)) hx hb hr hlocks (by rfl) dX4_setting_26
set_option maxHeartbeats 4000000 in
set_option maxRecDepth 100000 in
theorem m_X4_wordsTo (l : Launch) (D : va_G) (cy : Nat → ClassId) (x : Nat) (sa ja ta : Nat → Nat) (h q : Nat) (v : Nat → Nat → Int32) (i : Nat) (hi : i < 8) : Met l yX4_wordsTo wsX4_wordsTo ({ frames := 2, cells := 0, slots := 0, locals := 44 } : Room) (wl_pc D cy [([(x, .inr (4, [.ref (sa 0), .ref (ja 0), .ref (ta 0), .ref h, .ref q]))] : va_W), stW cy sa v] [.ref x, .int (nI i)]) (vp_Si (fun r : Int32 => r = q_wu v i)) 0 0 (fun _ => False) := by
  refine wl_ofP (cc := cX4_wordsTo) (maxL := 2) (ret := (some .int)) (by decide) rfl (Nat.le_of_ble_eq_true rfl) ?_
  intro p e s m below meth c ls hx hb hr hts hown hlocks hml hP hK hl
  have hl : lv_has ls 2 [(0, .ref x), (1, .int (nI i))] := hl
  have lkf10 := hts (.fieldLink RX4 10 "WireLamps" "state" "LWireLamps$State;") (by decide +kernel)
  have in_X4 : ∀ w ∈ u_ws RX4 TX4 5, w ∈ wsX4_wordsTo := by decide +kernel
  refine lv_iload_n hx hb dX4_wordsTo_0 rfl (lv_at hl 1 rfl) ?_
  refine wl_pS (As := [.int (nI i)]) (rest := []) ⟨hx, hb, hml, hown, hts⟩ (m_X4_isLamp l D cy (nI i) ) (va_cwS 1 hts gX4_wordsTo_X4_isLamp rfl rfl rfl (by decide +kernel) ⟨Nat.le_of_ble_eq_true rfl, Nat.le_of_ble_eq_true rfl⟩) hK hP [] rfl rfl hl.1 rfl (Nat.le_of_ble_eq_true rfl) dX4_wordsTo_1 ⟨Nat.le_of_ble_eq_true rfl, Nat.le_of_ble_eq_true rfl⟩ (fun r1 er1 => ?_)
  have er1 : r1 = if (¬ (nI i) < 0 ∧ ¬ 8 ≤ (nI i)) then 1 else 0 := er1
  refine wl_b_ne (tgt := 17) hx hb (¬ (nI i) < 0 ∧ ¬ 8 ≤ (nI i)) er1 dX4_wordsTo_4 (by decide) (fun c2 => ?_) (fun c2 => absurd (wl_rng (n := 8) rfl hi (by decide)) c2)
  refine lv_aload_n hx hb dX4_wordsTo_17 rfl (lv_at hl 0 rfl) ?_
  refine wl_getf (C := RX4) (T := TX4) (N := 5) (ci := 4) (v := .ref (sa 0)) hx hb hts in_X4 hown hK hP 0 0 rfl rfl rfl 0 (by decide) lkf10 rfl rfl dX4_wordsTo_18 ?_
  refine lv_iload_n hx hb dX4_wordsTo_21 rfl (lv_at hl 1 rfl) ?_
  refine wl_pV (As := [.int (nI i)]) (rest := []) ⟨hx, hb, hml, hown, hts⟩ (m_X2_wordsUpTo l D cy sa v i (by omega)) (cwV 1 hts gX4_wordsTo_X2_wordsUpTo rfl rfl rfl (by decide +kernel) ⟨Nat.le_of_ble_eq_true rfl, Nat.le_of_ble_eq_true rfl⟩) hK hP [1] rfl rfl rfl rfl rfl rfl hl.1 rfl (Nat.le_of_ble_eq_true rfl) dX4_wordsTo_22 ⟨Nat.le_of_ble_eq_true rfl, Nat.le_of_ble_eq_true rfl⟩ (fun r3 er3 => ?_)
  have er3 : r3 = q_wu v i := er3
  subst er3
  exact wl_ri (r := (q_wu v i)) hx hb hr hlocks (by rfl) dX4_wordsTo_25
set_option maxHeartbeats 4000000 in
set_option maxRecDepth 100000 in
theorem m_X4_pulseAt (l : Launch) (D : va_G) (cy : Nat → ClassId) (x : Nat) (sa ja ta : Nat → Nat) (h q : Nat) (v : Nat → Nat → Int32) (i n : Nat) (hi : i < 2 ^ 31) (hn : v 7 0 = nI n) (hn2 : n ≤ 120) : Met l yX4_pulseAt wsX4_pulseAt ({ frames := 0, cells := 0, slots := 0, locals := 0 } : Room) (wl_pc D cy [([(x, .inr (4, [.ref (sa 0), .ref (ja 0), .ref (ta 0), .ref h, .ref q]))] : va_W), stW cy sa v] [.ref x, .int (nI i)]) (vp_Si (fun r : Int32 => r = if i < n then v 6 i else -1)) 0 0 (fun _ => False) := by
  refine wl_ofP (cc := cX4_pulseAt) (maxL := 2) (ret := (some .int)) (by decide) rfl (Nat.le_of_ble_eq_true rfl) ?_
  intro p e s m below meth c ls hx hb hr hts hown hlocks hml hP hK hl
  have hl : lv_has ls 2 [(0, .ref x), (1, .int (nI i))] := hl
  have lkf10 := hts (.fieldLink RX4 10 "WireLamps" "state" "LWireLamps$State;") (by decide +kernel)
  have lkf195 := hts (.fieldLink RX4 195 "WireLamps$State" "pulses" "[I") (by decide +kernel)
  have lkf99 := hts (.fieldLink RX4 99 "WireLamps$State" "pulseCount" "I") (by decide +kernel)
  have in_X2 : ∀ w ∈ u_ws RX2 TX2 13, w ∈ wsX4_pulseAt := by decide +kernel
  have in_X4 : ∀ w ∈ u_ws RX4 TX4 5, w ∈ wsX4_pulseAt := by decide +kernel
  refine lv_iload_n hx hb dX4_pulseAt_0 rfl (lv_at hl 1 rfl) ?_
  refine wl_if_ge (tgt := 14) hx hb i dX4_pulseAt_1 (by decide) (by omega) ?_
  refine lv_iload_n hx hb dX4_pulseAt_14 rfl (lv_at hl 1 rfl) ?_
  refine lv_aload_n hx hb dX4_pulseAt_15 rfl (lv_at hl 0 rfl) ?_
  refine wl_getf (C := RX4) (T := TX4) (N := 5) (ci := 4) (v := .ref (sa 0)) hx hb hts in_X4 hown hK hP 0 0 rfl rfl rfl 0 (by decide) lkf10 rfl rfl dX4_pulseAt_16 ?_
  refine wl_getf (C := RX2) (T := TX2) (N := 13) (ci := 2) (v := .int (v 7 0)) hx hb hts in_X2 hown hK hP 1 0 rfl rfl rfl 7 (by decide) lkf99 rfl rfl dX4_pulseAt_19 ?_
  refine wl_top (y := nI n) hn ?_
  refine wl_icmp_ge (tgt := 31) hx hb i n dX4_pulseAt_22 (by decide) (by omega) (by omega) (fun c2 => ?_) (fun c2 => ?_)
  · refine lv_iconst (v := (-1)) hx hb dX4_pulseAt_31 (by decide) ?_
    exact wl_ri (r := (-1)) hx hb hr hlocks (by exact (if_neg (by omega)).symm) dX4_pulseAt_32
  · refine lv_iload_n hx hb dX4_pulseAt_25 rfl (lv_at hl 1 rfl) ?_
    refine lv_bipush (v := 120) hx hb dX4_pulseAt_26 (by decide) ?_
    refine wl_icmp_lt (tgt := 33) hx hb i 120 dX4_pulseAt_28 (by decide) (by omega) (by omega) (fun c3 => ?_) (fun c3 => ?_)
    · refine lv_aload_n hx hb dX4_pulseAt_33 rfl (lv_at hl 0 rfl) ?_
      refine wl_getf (C := RX4) (T := TX4) (N := 5) (ci := 4) (v := .ref (sa 0)) hx hb hts in_X4 hown hK hP 0 0 rfl rfl rfl 0 (by decide) lkf10 rfl rfl dX4_pulseAt_34 ?_
      refine wl_getf (C := RX2) (T := TX2) (N := 13) (ci := 2) (v := .ref (sa 7)) hx hb hts in_X2 hown hK hP 1 0 rfl rfl rfl 6 (by decide) lkf195 rfl rfl dX4_pulseAt_37 ?_
      refine lv_iload_n hx hb dX4_pulseAt_40 rfl (lv_at hl 1 rfl) ?_
      refine wl_iald hx hb hK hP 1 7 rfl rfl i (by omega) (Nat.le_of_ble_eq_true rfl) dX4_pulseAt_41 ?_
      exact wl_ri (r := (v 6 i)) hx hb hr hlocks (by exact (if_pos (by omega)).symm) dX4_pulseAt_42
    · refine lv_iconst (v := (-1)) hx hb dX4_pulseAt_31 (by decide) ?_
      exact wl_ri (r := (-1)) hx hb hr hlocks (by exact (if_neg (by omega)).symm) dX4_pulseAt_32
set_option maxHeartbeats 4000000 in
set_option maxRecDepth 100000 in
theorem m_X4_bears (l : Launch) (D : va_G) (cy : Nat → ClassId) (x : Nat) (sa ja ta : Nat → Nat) (h q : Nat) (v : Nat → Nat → Int32) (i : Nat) (hi : i < 8) : Met l yX4_bears wsX4_bears ({ frames := 3, cells := 0, slots := 0, locals := 72 } : Room) (wl_pc D cy [([(x, .inr (4, [.ref (sa 0), .ref (ja 0), .ref (ta 0), .ref h, .ref q]))] : va_W), stW cy sa v] [.ref x, .int (nI i)]) (vp_Si (fun r : Int32 => r = q_be v i)) 0 0 (fun _ => False) := by
  refine wl_ofP (cc := cX4_bears) (maxL := 3) (ret := (some .int)) (by decide) rfl (Nat.le_of_ble_eq_true rfl) ?_
  intro p e s m below meth c ls hx hb hr hts hown hlocks hml hP hK hl
  have hl : lv_has ls 3 [(0, .ref x), (1, .int (nI i))] := hl
  have lkf10 := hts (.fieldLink RX4 10 "WireLamps" "state" "LWireLamps$State;") (by decide +kernel)
  have in_X4 : ∀ w ∈ u_ws RX4 TX4 5, w ∈ wsX4_bears := by decide +kernel
  refine lv_iload_n hx hb dX4_bears_0 rfl (lv_at hl 1 rfl) ?_
  refine wl_pS (As := [.int (nI i)]) (rest := []) ⟨hx, hb, hml, hown, hts⟩ (m_X4_isLamp l D cy (nI i) ) (va_cwS 1 hts gX4_bears_X4_isLamp rfl rfl rfl (by decide +kernel) ⟨Nat.le_of_ble_eq_true rfl, Nat.le_of_ble_eq_true rfl⟩) hK hP [] rfl rfl hl.1 rfl (Nat.le_of_ble_eq_true rfl) dX4_bears_1 ⟨Nat.le_of_ble_eq_true rfl, Nat.le_of_ble_eq_true rfl⟩ (fun r1 er1 => ?_)
  have er1 : r1 = if (¬ (nI i) < 0 ∧ ¬ 8 ≤ (nI i)) then 1 else 0 := er1
  refine wl_b_ne (tgt := 17) hx hb (¬ (nI i) < 0 ∧ ¬ 8 ≤ (nI i)) er1 dX4_bears_4 (by decide) (fun c2 => ?_) (fun c2 => absurd (wl_rng (n := 8) rfl hi (by decide)) c2)
  refine lv_bipush (v := 6) hx hb dX4_bears_17 (by decide) ?_
  refine lv_istore_n (lv' := [(2, .int 6), (0, .ref x), (1, .int (nI i))]) hx hb dX4_bears_19 rfl hl (by decide) rfl (fun ls hl => ?_)
  suffices K3 : ∀ (n4 : Nat) (d : Nat), 7 - d < n4 → (d ≤ 7) → (q_bs (q_bp v i) 7 0 = q_bs (q_bp v i) (7 - d) d) → ∀ (ls : Array Slot), lv_has ls 3 [(2, .int (6 - nI d)), (0, .ref x), (1, .int (nI i))] → W p l e ({ frames := 3, cells := 0, slots := 0, locals := 72 } : Room) s m ([.ref x, .int (nI i)] : List Value).toArray below meth c s.heap [] 0 0 (MQ below (vp_Si (fun r : Int32 => r = q_be v i)) ([.ref x, .int (nI i)] : List Value).toArray s 0 0 (fun _ => False)) (F0 m 20 ls []) from K3 8 0 (by omega) (by omega) rfl _  (lv_sub hl [0, 1, 2] rfl)
  intro n4
  induction n4 with
  | zero => intro d hm; exact absurd hm (Nat.not_lt_zero _)
  | succ n4 ih5 =>
    intro d hm hd hq ls  hl
    refine lv_iload_n hx hb dX4_bears_20 rfl (lv_at hl 0 rfl) ?_
    refine lv_if_lt (tgt := 62) hx hb dX4_bears_21 (by decide) (fun cx => ?_) (fun cx => ?_)
    · refine lv_iconst (v := (-1)) hx hb dX4_bears_62 (by decide) ?_
      exact wl_ri (r := (-1)) hx hb hr hlocks (by obtain rfl : d = 7 := q_6 d hd cx; rw [q_be, hq]; rfl) dX4_bears_63
    · have hd7 : d < 7 := by rcases Nat.lt_or_ge d 7 with y | y; exact y; (obtain rfl : d = 7 := by omega); exact absurd (by decide) cx
      refine lv_aload_n hx hb dX4_bears_24 rfl (lv_at hl 1 rfl) ?_
      refine wl_getf (C := RX4) (T := TX4) (N := 5) (ci := 4) (v := .ref (sa 0)) hx hb hts in_X4 hown hK hP 0 0 rfl rfl rfl 0 (by decide) lkf10 rfl rfl dX4_bears_25 ?_
      refine lv_sipush (v := 1365) hx hb dX4_bears_28 (by decide) ?_
      refine lv_iload_n hx hb dX4_bears_31 rfl (lv_at hl 2 rfl) ?_
      refine lv_iload_n hx hb dX4_bears_32 rfl (lv_at hl 0 rfl) ?_
      refine wl_pV (As := [.int 1365, .int (nI i), .int (6 - nI d)]) (rest := []) ⟨hx, hb, hml, hown, hts⟩ (m_X2_wrongWith l D cy sa v 1365 (nI i) (6 - nI d) ) (cwV 3 hts gX4_bears_X2_wrongWith rfl rfl rfl (by decide +kernel) ⟨Nat.le_of_ble_eq_true rfl, Nat.le_of_ble_eq_true rfl⟩) hK hP [1] rfl rfl rfl rfl rfl rfl hl.1 rfl (Nat.le_of_ble_eq_true rfl) dX4_bears_33 ⟨Nat.le_of_ble_eq_true rfl, Nat.le_of_ble_eq_true rfl⟩ (fun r6 er6 => ?_)
      have er6 : r6 = q_wm v (q_el v (nI i) (6 - nI d)) 1365 8 := er6
      subst er6
      refine lv_if_ne (tgt := 56) hx hb dX4_bears_36 (by decide) (fun h1 => ?_) (fun h1 => ?_)
      · refine lv_iinc (v := 6 - nI (d + 1)) (lv' := [(2, .int (6 - nI (d + 1))), (0, .ref x), (1, .int (nI i))]) hx hb dX4_bears_56 hl (k := 0) rfl (q_6s d) (by decide) rfl (fun ls hl => ?_)
        refine lv_goto (tgt := 20) hx hb dX4_bears_59 (by decide) ?_
        exact ih5 (d + 1) (by omega) (by omega) (by exact q_bs_in hd7 (by first | (simp [q_bp, h1]; done) | (simp [q_bp, h2]; done)) hq) _  (lv_sub hl [0, 1, 2] rfl)
      · refine lv_aload_n hx hb dX4_bears_39 rfl (lv_at hl 1 rfl) ?_
        refine wl_getf (C := RX4) (T := TX4) (N := 5) (ci := 4) (v := .ref (sa 0)) hx hb hts in_X4 hown hK hP 0 0 rfl rfl rfl 0 (by decide) lkf10 rfl rfl dX4_bears_40 ?_
        refine lv_sipush (v := 2730) hx hb dX4_bears_43 (by decide) ?_
        refine lv_iload_n hx hb dX4_bears_46 rfl (lv_at hl 2 rfl) ?_
        refine lv_iload_n hx hb dX4_bears_47 rfl (lv_at hl 0 rfl) ?_
        refine wl_pV (As := [.int 2730, .int (nI i), .int (6 - nI d)]) (rest := []) ⟨hx, hb, hml, hown, hts⟩ (m_X2_wrongWith l D cy sa v 2730 (nI i) (6 - nI d) ) (cwV 3 hts gX4_bears_X2_wrongWith rfl rfl rfl (by decide +kernel) ⟨Nat.le_of_ble_eq_true rfl, Nat.le_of_ble_eq_true rfl⟩) hK hP [1] rfl rfl rfl rfl rfl rfl hl.1 rfl (Nat.le_of_ble_eq_true rfl) dX4_bears_48 ⟨Nat.le_of_ble_eq_true rfl, Nat.le_of_ble_eq_true rfl⟩ (fun r7 er7 => ?_)
        have er7 : r7 = q_wm v (q_el v (nI i) (6 - nI d)) 2730 8 := er7
        subst er7
        refine lv_if_ne (tgt := 56) hx hb dX4_bears_51 (by decide) (fun h2 => ?_) (fun h2 => ?_)
        · refine lv_iinc (v := 6 - nI (d + 1)) (lv' := [(2, .int (6 - nI (d + 1))), (0, .ref x), (1, .int (nI i))]) hx hb dX4_bears_56 hl (k := 0) rfl (q_6s d) (by decide) rfl (fun ls hl => ?_)
          refine lv_goto (tgt := 20) hx hb dX4_bears_59 (by decide) ?_
          exact ih5 (d + 1) (by omega) (by omega) (by exact q_bs_in hd7 (by first | (simp [q_bp, h1]; done) | (simp [q_bp, h2]; done)) hq) _  (lv_sub hl [0, 1, 2] rfl)
        · refine lv_iload_n hx hb dX4_bears_54 rfl (lv_at hl 0 rfl) ?_
          exact wl_ri (r := (6 - nI d)) hx hb hr hlocks (by rw [q_be, q_bs_out (by omega) (by simp [q_bp, h1, h2]) hq]) dX4_bears_55
set_option maxHeartbeats 4000000 in
set_option maxRecDepth 100000 in
theorem m_X4_brokenAt (l : Launch) (D : va_G) (cy : Nat → ClassId) (x : Nat) (sa ja ta : Nat → Nat) (h q : Nat) (v : Nat → Nat → Int32)  : Met l yX4_brokenAt wsX4_brokenAt ({ frames := 0, cells := 0, slots := 0, locals := 0 } : Room) (wl_pc D cy [([(x, .inr (4, [.ref (sa 0), .ref (ja 0), .ref (ta 0), .ref h, .ref q]))] : va_W), stW cy sa v] [.ref x]) (vp_Si (fun r : Int32 => r = q_bk v)) 0 0 (fun _ => False) := by
  refine wl_ofP (cc := cX4_brokenAt) (maxL := 2) (ret := (some .int)) (by decide) rfl (Nat.le_of_ble_eq_true rfl) ?_
  intro p e s m below meth c ls hx hb hr hts hown hlocks hml hP hK hl
  have hl : lv_has ls 2 [(0, .ref x)] := hl
  have lkf10 := hts (.fieldLink RX4 10 "WireLamps" "state" "LWireLamps$State;") (by decide +kernel)
  have lkf61 := hts (.fieldLink RX4 61 "WireLamps$State" "modes" "[I") (by decide +kernel)
  have in_X2 : ∀ w ∈ u_ws RX2 TX2 13, w ∈ wsX4_brokenAt := by decide +kernel
  have in_X4 : ∀ w ∈ u_ws RX4 TX4 5, w ∈ wsX4_brokenAt := by decide +kernel
  refine lv_iconst (v := 1) hx hb dX4_brokenAt_0 (by decide) ?_
  refine lv_istore_n (lv' := [(1, .int 1), (0, .ref x)]) hx hb dX4_brokenAt_1 rfl hl (by decide) rfl (fun ls hl => ?_)
  suffices K1 : ∀ (n2 : Nat) (i : Nat), 8 - i < n2 → (1 ≤ i ∧ i ≤ 8) → (q_bk v = q_bks v (8 - i) i) → ∀ (ls : Array Slot), lv_has ls 2 [(1, .int (nI i)), (0, .ref x)] → W p l e ({ frames := 0, cells := 0, slots := 0, locals := 0 } : Room) s m ([.ref x] : List Value).toArray below meth c s.heap [] 0 0 (MQ below (vp_Si (fun r : Int32 => r = q_bk v)) ([.ref x] : List Value).toArray s 0 0 (fun _ => False)) (F0 m 2 ls []) from K1 9 1 (by omega) (by omega) rfl _  (lv_sub hl [0, 1] rfl)
  intro n2
  induction n2 with
  | zero => intro i hm; exact absurd hm (Nat.not_lt_zero _)
  | succ n2 ih3 =>
    intro i hm hi hq ls  hl
    refine lv_iload_n hx hb dX4_brokenAt_2 rfl (lv_at hl 0 rfl) ?_
    refine lv_bipush (v := 8) hx hb dX4_brokenAt_3 (by decide) ?_
    refine wl_icmp_ge (tgt := 31) hx hb i 8 dX4_brokenAt_5 (by decide) (by omega) (by omega) (fun c4 => ?_) (fun c4 => ?_)
    · refine lv_iconst (v := (-1)) hx hb dX4_brokenAt_31 (by decide) ?_
      exact wl_ri (r := (-1)) hx hb hr hlocks (by obtain rfl : i = 8 := (by omega); rw [hq]; rfl) dX4_brokenAt_32
    · refine lv_aload_n hx hb dX4_brokenAt_8 rfl (lv_at hl 1 rfl) ?_
      refine wl_getf (C := RX4) (T := TX4) (N := 5) (ci := 4) (v := .ref (sa 0)) hx hb hts in_X4 hown hK hP 0 0 rfl rfl rfl 0 (by decide) lkf10 rfl rfl dX4_brokenAt_9 ?_
      refine wl_getf (C := RX2) (T := TX2) (N := 13) (ci := 2) (v := .ref (sa 1)) hx hb hts in_X2 hown hK hP 1 0 rfl rfl rfl 0 (by decide) lkf61 rfl rfl dX4_brokenAt_12 ?_
      refine lv_iload_n hx hb dX4_brokenAt_15 rfl (lv_at hl 0 rfl) ?_
      refine lv_iconst (v := 1) hx hb dX4_brokenAt_16 (by decide) ?_
      refine lv_isub hx hb dX4_brokenAt_17 ?_
      refine wl_top (y := nI (i - 1)) (pk_sub (a := i) (b := 1) (by omega)) ?_
      refine wl_iald hx hb hK hP 1 1 rfl rfl (i - 1) (by omega) (Nat.le_of_ble_eq_true rfl) dX4_brokenAt_18 ?_
      refine lv_iconst (v := 2) hx hb dX4_brokenAt_19 (by decide) ?_
      refine lv_icmp_ne (tgt := 25) hx hb dX4_brokenAt_20 (by decide) (fun hb2 => ?_) (fun hb2 => ?_)
      · refine lv_iinc (v := nI (i + 1)) (lv' := [(1, .int (nI (i + 1))), (0, .ref x)]) hx hb dX4_brokenAt_25 hl (k := 0) rfl (wl_inc i) (by decide) rfl (fun ls hl => ?_)
        refine lv_goto (tgt := 2) hx hb dX4_brokenAt_28 (by decide) ?_
        exact ih3 (i + 1) (by omega) (by omega) (by exact q_bk_in (by omega) hb2 hq) _  (lv_sub hl [0, 1] rfl)
      · refine lv_iload_n hx hb dX4_brokenAt_23 rfl (lv_at hl 0 rfl) ?_
        exact wl_ri (r := (nI i)) hx hb hr hlocks (by rw [q_bk_out (by omega) hb2 hq]) dX4_brokenAt_24
set_option maxHeartbeats 4000000 in
set_option maxRecDepth 100000 in
theorem m_X4_refuse (l : Launch) (D : va_G) (cy : Nat → ClassId) (x : Nat) (sa ja ta : Nat → Nat) (h q : Nat) (v : Nat → Nat → Int32) (sz : Nat)  : Met l yX4_refuse wsX4_refuse ({ frames := 0, cells := 0, slots := 0, locals := 0 } : Room) (wl_ic D cy (fun _ => True) [([(x, .inr (4, [.ref (sa 0), .ref (ja 0), .ref (ta 0), .ref h, .ref q]))] : va_W), stW cy sa v] sz [.ref x]) (va_Qi (fun (r : Int32) (bs : List va_W) => r = -1 ∧ bs = [([(x, .inr (4, [.ref (sa 0), .ref (ja 0), .ref (ta 0), .ref h, .ref q]))] : va_W), stW cy sa (q_rfu v)]) (wl_ib D [([(x, .inr (4, [.ref (sa 0), .ref (ja 0), .ref (ta 0), .ref h, .ref q]))] : va_W), stW cy sa v] sz) (va_A ([([(x, .inr (4, [.ref (sa 0), .ref (ja 0), .ref (ta 0), .ref h, .ref q]))] : va_W), stW cy sa v] : List va_W).flatten sz)) 0 0 (va_A ([([(x, .inr (4, [.ref (sa 0), .ref (ja 0), .ref (ta 0), .ref h, .ref q]))] : va_W), stW cy sa v] : List va_W).flatten sz) := by
  refine wl_ofI (cc := cX4_refuse) (maxL := 1) (ret := (some .int)) (by decide) rfl (Nat.le_of_ble_eq_true rfl) ?_
  intro p e s m below meth c ls A hx hb hr hts hown hlocks hml hnm hsz hAe hP hK hD hX hA hS hl
  have hl : lv_has ls 1 [(0, .ref x)] := hl
  have lkf10 := hts (.fieldLink RX4 10 "WireLamps" "state" "LWireLamps$State;") (by decide +kernel)
  have lkf213 := hts (.fieldLink RX4 213 "WireLamps$State" "refused" "I") (by decide +kernel)
  have in_X2 : ∀ w ∈ u_ws RX2 TX2 13, w ∈ wsX4_refuse := by decide +kernel
  have in_X4 : ∀ w ∈ u_ws RX4 TX4 5, w ∈ wsX4_refuse := by decide +kernel
  refine lv_aload_n hx hb dX4_refuse_0 rfl (lv_at hl 0 rfl) ?_
  refine wl_getf (C := RX4) (T := TX4) (N := 5) (ci := 4) (v := .ref (sa 0)) hx hb hts in_X4 hown hK hP 0 0 rfl rfl rfl 0 (by decide) lkf10 rfl rfl dX4_refuse_1 ?_
  refine lv_dup hx hb dX4_refuse_4 rfl ?_
  refine wl_getf (C := RX2) (T := TX2) (N := 13) (ci := 2) (v := .int (v 7 5)) hx hb hts in_X2 hown hK hP 1 0 rfl rfl rfl 12 (by decide) lkf213 rfl rfl dX4_refuse_5 ?_
  refine lv_iconst (v := 1) hx hb dX4_refuse_8 (by decide) ?_
  refine lv_iadd hx hb dX4_refuse_9 ?_
  refine wl_putf (C := RX2) (T := TX2) (N := 13) (ci := 2) (v := .int ((v 7 5) + 1)) hx hb hts in_X2 tyX2 tyX2_ok nmX2 hown hK hP hD hS 1 0 rfl rfl rfl 12 (by decide) lkf213 rfl rfl rfl rfl (Nat.le_of_ble_eq_true rfl) dX4_refuse_10 (fun H locs hP hD hS => ?_)
  have hP : va_P D vwCl ([([(x, .inr (4, [.ref (sa 0), .ref (ja 0), .ref (ta 0), .ref h, .ref q]))] : va_W), stW cy sa (su v 7 5 ((v 7 5) + 1))] : List va_W).flatten H := hP
  have hD : va_D A ([([(x, .inr (4, [.ref (sa 0), .ref (ja 0), .ref (ta 0), .ref h, .ref q]))] : va_W), stW cy sa (su v 7 5 ((v 7 5) + 1))] : List va_W).flatten := hD
  refine lv_iconst (v := (-1)) hx hb dX4_refuse_13 (by decide) ?_
  exact wl_Ri (bs := [([(x, .inr (4, [.ref (sa 0), .ref (ja 0), .ref (ta 0), .ref h, .ref q]))] : va_W), stW cy sa (su v 7 5 ((v 7 5) + 1))]) (r := (-1)) hx hb hr hlocks hAe hP hD hS (by exact ⟨rfl, rfl⟩) dX4_refuse_14
set_option maxHeartbeats 4000000 in
set_option maxRecDepth 100000 in
theorem m_X4_append (l : Launch) (D : va_G) (cy : Nat → ClassId) (x : Nat) (sa ja ta : Nat → Nat) (h q : Nat) (t : Nat → Nat → Int32) (i k : Nat) (sz : Nat) (hi : 33 ≤ i ∧ i ≤ 126) (hk : t 1 0 = nI k) (hk2 : k < 60) : Met l yX4_append wsX4_append ({ frames := 1, cells := 0, slots := 0, locals := 21 } : Room) (wl_ic D cy (fun _ => True) [([(x, .inr (4, [.ref (sa 0), .ref (ja 0), .ref (ta 0), .ref h, .ref q]))] : va_W), txW cy ta t] sz [.ref x, .int (nI i)]) (va_Qi (fun (r : Int32) (bs : List va_W) => r = nI (k + 1) ∧ bs = [([(x, .inr (4, [.ref (sa 0), .ref (ja 0), .ref (ta 0), .ref h, .ref q]))] : va_W), txW cy ta (su (su t 0 k (nI i)) 1 0 (nI (k + 1)))]) (wl_ib D [([(x, .inr (4, [.ref (sa 0), .ref (ja 0), .ref (ta 0), .ref h, .ref q]))] : va_W), txW cy ta t] sz) (va_A ([([(x, .inr (4, [.ref (sa 0), .ref (ja 0), .ref (ta 0), .ref h, .ref q]))] : va_W), txW cy ta t] : List va_W).flatten sz)) 0 0 (va_A ([([(x, .inr (4, [.ref (sa 0), .ref (ja 0), .ref (ta 0), .ref h, .ref q]))] : va_W), txW cy ta t] : List va_W).flatten sz) := by
  refine wl_ofI (cc := cX4_append) (maxL := 2) (ret := (some .int)) (by decide) rfl (Nat.le_of_ble_eq_true rfl) ?_
  intro p e s m below meth c ls A hx hb hr hts hown hlocks hml hnm hsz hAe hP hK hD hX hA hS hl
  have hl : lv_has ls 2 [(0, .ref x), (1, .int (nI i))] := hl
  have lkf119 := hts (.fieldLink RX4 119 "WireLamps$Text" "length" "I") (by decide +kernel)
  have lkf26 := hts (.fieldLink RX4 26 "WireLamps" "text" "LWireLamps$Text;") (by decide +kernel)
  have in_X3 : ∀ w ∈ u_ws RX3 TX3 2, w ∈ wsX4_append := by decide +kernel
  have in_X4 : ∀ w ∈ u_ws RX4 TX4 5, w ∈ wsX4_append := by decide +kernel
  refine lv_iload_n hx hb dX4_append_0 rfl (lv_at hl 1 rfl) ?_
  refine lv_bipush (v := 33) hx hb dX4_append_1 (by decide) ?_
  refine wl_icmp_lt (tgt := 12) hx hb i 33 dX4_append_3 (by decide) (by omega) (by omega) (fun c1 => absurd c1 (by omega)) (fun c1 => ?_)
  refine lv_iload_n hx hb dX4_append_6 rfl (lv_at hl 1 rfl) ?_
  refine lv_bipush (v := 126) hx hb dX4_append_7 (by decide) ?_
  refine wl_icmp_le (tgt := 22) hx hb i 126 dX4_append_9 (by decide) (by omega) (by omega) (fun c2 => ?_) (fun c2 => absurd c2 (by omega))
  refine lv_aload_n hx hb dX4_append_22 rfl (lv_at hl 0 rfl) ?_
  refine wl_getf (C := RX4) (T := TX4) (N := 5) (ci := 4) (v := .ref (ta 0)) hx hb hts in_X4 hown hK hP 0 0 rfl rfl rfl 2 (by decide) lkf26 rfl rfl dX4_append_23 ?_
  refine wl_getf (C := RX3) (T := TX3) (N := 2) (ci := 3) (v := .int (t 1 0)) hx hb hts in_X3 hown hK hP 1 0 rfl rfl rfl 1 (by decide) lkf119 rfl rfl dX4_append_26 ?_
  refine wl_top (y := nI k) hk ?_
  refine lv_bipush (v := 60) hx hb dX4_append_29 (by decide) ?_
  refine wl_icmp_lt (tgt := 44) hx hb k 60 dX4_append_31 (by decide) (by omega) (by omega) (fun c3 => ?_) (fun c3 => absurd c3 (by omega))
  refine lv_aload_n hx hb dX4_append_44 rfl (lv_at hl 0 rfl) ?_
  refine wl_getf (C := RX4) (T := TX4) (N := 5) (ci := 4) (v := .ref (ta 0)) hx hb hts in_X4 hown hK hP 0 0 rfl rfl rfl 2 (by decide) lkf26 rfl rfl dX4_append_45 ?_
  refine lv_iload_n hx hb dX4_append_48 rfl (lv_at hl 1 rfl) ?_
  refine lv_i2c (v := nI i) hx hb dX4_append_49 (q_chr i hi.2) ?_
  have hP := wl_Po (bs' := [txW cy ta t, ([(x, .inr (4, [.ref (sa 0), .ref (ja 0), .ref (ta 0), .ref h, .ref q]))] : va_W)]) [1, 0] 2 rfl (by decide) rfl hP
  have hD := wl_Do (bs' := [txW cy ta t, ([(x, .inr (4, [.ref (sa 0), .ref (ja 0), .ref (ta 0), .ref h, .ref q]))] : va_W)]) [1, 0] 2 rfl (by decide) rfl hD
  refine wl_iVv (As := [.int (nI i)]) (rest := []) (bsC := [txW cy ta t]) (bsR := [([(x, .inr (4, [.ref (sa 0), .ref (ja 0), .ref (ta 0), .ref h, .ref q]))] : va_W)]) ⟨hx, hb, hml, hown, hts⟩ (m_X3_add l D cy ta t (nI i) k s.heap.size hk (by omega) (q_chr2 i hi.2)) (cwV 1 hts gX4_append_X3_add rfl rfl rfl (by decide +kernel) ⟨Nat.le_of_ble_eq_true rfl, Nat.le_of_ble_eq_true rfl⟩) wl_xT (fun _ _ _ => trivial) hK hP hD hS hA rfl rfl rfl rfl rfl hl.1 rfl (Nat.le_of_ble_eq_true rfl) dX4_append_50 ⟨Nat.le_of_ble_eq_true rfl, Nat.le_of_ble_eq_true rfl⟩ (fun bs4 H locs e5 _ _ hP hD hS => ?_)
  have e5 : bs4 = [txW cy ta (su (su t 0 k (nI i)) 1 0 (nI (k + 1)))] := e5
  subst e5
  have hP : va_P D vwCl ([txW cy ta (su (su t 0 k (nI i)) 1 0 (nI (k + 1))), ([(x, .inr (4, [.ref (sa 0), .ref (ja 0), .ref (ta 0), .ref h, .ref q]))] : va_W)] : List va_W).flatten H := hP
  have hD : va_D A ([txW cy ta (su (su t 0 k (nI i)) 1 0 (nI (k + 1))), ([(x, .inr (4, [.ref (sa 0), .ref (ja 0), .ref (ta 0), .ref h, .ref q]))] : va_W)] : List va_W).flatten := hD
  have hP := wl_Po (bs' := [([(x, .inr (4, [.ref (sa 0), .ref (ja 0), .ref (ta 0), .ref h, .ref q]))] : va_W), txW cy ta (su (su t 0 k (nI i)) 1 0 (nI (k + 1)))]) [1, 0] 2 rfl (by decide) rfl hP
  have hD := wl_Do (bs' := [([(x, .inr (4, [.ref (sa 0), .ref (ja 0), .ref (ta 0), .ref h, .ref q]))] : va_W), txW cy ta (su (su t 0 k (nI i)) 1 0 (nI (k + 1)))]) [1, 0] 2 rfl (by decide) rfl hD
  refine lv_aload_n hx hb dX4_append_53 rfl (lv_at hl 0 rfl) ?_
  refine wl_getf (C := RX4) (T := TX4) (N := 5) (ci := 4) (v := .ref (ta 0)) hx hb hts in_X4 hown hK hP 0 0 rfl rfl rfl 2 (by decide) lkf26 rfl rfl dX4_append_54 ?_
  refine wl_getf (C := RX3) (T := TX3) (N := 2) (ci := 3) (v := .int ((su (su t 0 k (nI i)) 1 0 (nI (k + 1))) 1 0)) hx hb hts in_X3 hown hK hP 1 0 rfl rfl rfl 1 (by decide) lkf119 rfl rfl dX4_append_57 ?_
  exact wl_Ri (bs := [([(x, .inr (4, [.ref (sa 0), .ref (ja 0), .ref (ta 0), .ref h, .ref q]))] : va_W), txW cy ta (su (su t 0 k (nI i)) 1 0 (nI (k + 1)))]) (r := ((su (su t 0 k (nI i)) 1 0 (nI (k + 1))) 1 0)) hx hb hr hlocks hAe hP hD hS (by exact ⟨rfl, rfl⟩) dX4_append_60
set_option maxHeartbeats 4000000 in
set_option maxRecDepth 100000 in
theorem m_X4_letGapBe (l : Launch) (D : va_G) (cy : Nat → ClassId) (x : Nat) (sa ja ta : Nat → Nat) (h q : Nat) (w : Nat → Nat → Int32) (v : Nat → Nat → Int32) (n : Nat) (sz : Nat) (hn : v 7 0 = nI n) (hn2 : n ≤ 120) : Met l yX4_letGapBe wsX4_letGapBe ({ frames := 4, cells := 0, slots := 0, locals := 90 } : Room) (wl_ic D cy (fun _ => True) [([(x, .inr (4, [.ref (sa 0), .ref (ja 0), .ref (ta 0), .ref h, .ref q]))] : va_W), joW cy ja w, stW cy sa v] sz [.ref x]) (va_Qi (fun (r : Int32) (bs : List va_W) => r = q_lc v (q_gt v w n 8) 8 ∧ bs = [([(x, .inr (4, [.ref (sa 0), .ref (ja 0), .ref (ta 0), .ref h, .ref q]))] : va_W), joW cy ja (q_gt v w n 8), stW cy sa (q_gp v (q_gt v w n 8))]) (wl_ib D [([(x, .inr (4, [.ref (sa 0), .ref (ja 0), .ref (ta 0), .ref h, .ref q]))] : va_W), joW cy ja w, stW cy sa v] sz) (va_A ([([(x, .inr (4, [.ref (sa 0), .ref (ja 0), .ref (ta 0), .ref h, .ref q]))] : va_W), joW cy ja w, stW cy sa v] : List va_W).flatten sz)) 0 0 (va_A ([([(x, .inr (4, [.ref (sa 0), .ref (ja 0), .ref (ta 0), .ref h, .ref q]))] : va_W), joW cy ja w, stW cy sa v] : List va_W).flatten sz) := by
  refine wl_ofI (cc := cX4_letGapBe) (maxL := 3) (ret := (some .int)) (by decide) rfl (Nat.le_of_ble_eq_true rfl) ?_
  intro p e s m below meth c ls A hx hb hr hts hown hlocks hml hnm hsz hAe hP hK hD hX hA hS hl
  have hl : lv_has ls 3 [(0, .ref x)] := hl
  have lkf10 := hts (.fieldLink RX4 10 "WireLamps" "state" "LWireLamps$State;") (by decide +kernel)
  have lkf172 := hts (.fieldLink RX4 172 "WireLamps$State" "known" "[I") (by decide +kernel)
  have lkf175 := hts (.fieldLink RX4 175 "WireLamps$State" "shining" "[I") (by decide +kernel)
  have lkf188 := hts (.fieldLink RX4 188 "WireLamps$State" "came" "[I") (by decide +kernel)
  have lkf19 := hts (.fieldLink RX4 19 "WireLamps" "journey" "LWireLamps$Journey;") (by decide +kernel)
  have lkf198 := hts (.fieldLink RX4 198 "WireLamps$State" "gaps" "I") (by decide +kernel)
  have lkf201 := hts (.fieldLink RX4 201 "WireLamps$State" "taken" "I") (by decide +kernel)
  have lkf204 := hts (.fieldLink RX4 204 "WireLamps$State" "lost" "I") (by decide +kernel)
  have lkf226 := hts (.fieldLink RX4 226 "WireLamps$Journey" "words" "[I") (by decide +kernel)
  have lkf273 := hts (.fieldLink RX4 273 "WireLamps$Journey" "came" "[I") (by decide +kernel)
  have lkf274 := hts (.fieldLink RX4 274 "WireLamps$Journey" "taken" "I") (by decide +kernel)
  have lkf61 := hts (.fieldLink RX4 61 "WireLamps$State" "modes" "[I") (by decide +kernel)
  have lkf99 := hts (.fieldLink RX4 99 "WireLamps$State" "pulseCount" "I") (by decide +kernel)
  have in_X1 : ∀ w ∈ u_ws RX1 TX1 6, w ∈ wsX4_letGapBe := by decide +kernel
  have in_X2 : ∀ w ∈ u_ws RX2 TX2 13, w ∈ wsX4_letGapBe := by decide +kernel
  have in_X4 : ∀ w ∈ u_ws RX4 TX4 5, w ∈ wsX4_letGapBe := by decide +kernel
  refine lv_aload_n hx hb dX4_letGapBe_0 rfl (lv_at hl 0 rfl) ?_
  refine wl_getf (C := RX4) (T := TX4) (N := 5) (ci := 4) (v := .ref (ja 0)) hx hb hts in_X4 hown hK hP 0 0 rfl rfl rfl 1 (by decide) lkf19 rfl rfl dX4_letGapBe_1 ?_
  refine lv_aload_n hx hb dX4_letGapBe_4 rfl (lv_at hl 0 rfl) ?_
  refine wl_getf (C := RX4) (T := TX4) (N := 5) (ci := 4) (v := .ref (sa 0)) hx hb hts in_X4 hown hK hP 0 0 rfl rfl rfl 0 (by decide) lkf10 rfl rfl dX4_letGapBe_5 ?_
  have hP := wl_Po (bs' := [joW cy ja w, stW cy sa v, ([(x, .inr (4, [.ref (sa 0), .ref (ja 0), .ref (ta 0), .ref h, .ref q]))] : va_W)]) [1, 2, 0] 3 rfl (by decide) rfl hP
  have hD := wl_Do (bs' := [joW cy ja w, stW cy sa v, ([(x, .inr (4, [.ref (sa 0), .ref (ja 0), .ref (ta 0), .ref h, .ref q]))] : va_W)]) [1, 2, 0] 3 rfl (by decide) rfl hD
  refine wl_iVv (As := [.ref (sa 0)]) (rest := []) (bsC := [joW cy ja w, stW cy sa v]) (bsR := [([(x, .inr (4, [.ref (sa 0), .ref (ja 0), .ref (ta 0), .ref h, .ref q]))] : va_W)]) ⟨hx, hb, hml, hown, hts⟩ (m_X1_goThrough l D cy ja w sa v n s.heap.size hn (by omega)) (cwV 1 hts gX4_letGapBe_X1_goThrough rfl rfl rfl (by decide +kernel) ⟨Nat.le_of_ble_eq_true rfl, Nat.le_of_ble_eq_true rfl⟩) wl_xT (fun _ _ _ => trivial) hK hP hD hS hA rfl rfl rfl rfl rfl hl.1 rfl (Nat.le_of_ble_eq_true rfl) dX4_letGapBe_8 ⟨Nat.le_of_ble_eq_true rfl, Nat.le_of_ble_eq_true rfl⟩ (fun bs1 H locs e2 _ _ hP hD hS => ?_)
  have e2 : bs1 = [joW cy ja (q_gt v w n 8), stW cy sa v] := e2
  subst e2
  have hP : va_P D vwCl ([joW cy ja (q_gt v w n 8), stW cy sa v, ([(x, .inr (4, [.ref (sa 0), .ref (ja 0), .ref (ta 0), .ref h, .ref q]))] : va_W)] : List va_W).flatten H := hP
  have hD : va_D A ([joW cy ja (q_gt v w n 8), stW cy sa v, ([(x, .inr (4, [.ref (sa 0), .ref (ja 0), .ref (ta 0), .ref h, .ref q]))] : va_W)] : List va_W).flatten := hD
  have hP := wl_Po (bs' := [([(x, .inr (4, [.ref (sa 0), .ref (ja 0), .ref (ta 0), .ref h, .ref q]))] : va_W), joW cy ja (q_gt v w n 8), stW cy sa v]) [2, 0, 1] 3 rfl (by decide) rfl hP
  have hD := wl_Do (bs' := [([(x, .inr (4, [.ref (sa 0), .ref (ja 0), .ref (ta 0), .ref h, .ref q]))] : va_W), joW cy ja (q_gt v w n 8), stW cy sa v]) [2, 0, 1] 3 rfl (by decide) rfl hD
  refine lv_iconst (v := 0) hx hb dX4_letGapBe_11 (by decide) ?_
  refine lv_istore_n (lv' := [(1, .int 0), (0, .ref x)]) hx hb dX4_letGapBe_12 rfl hl (by decide) rfl (fun ls hl => ?_)
  refine lv_iconst (v := 0) hx hb dX4_letGapBe_13 (by decide) ?_
  refine lv_istore_n (lv' := [(2, .int 0), (1, .int 0), (0, .ref x)]) hx hb dX4_letGapBe_14 rfl hl (by decide) rfl (fun ls hl => ?_)
  suffices K3 : ∀ (n4 : Nat) (i : Nat) (C : Int32) (Y : Nat → Nat → Int32), 8 - i < n4 → (i ≤ 8) → (Y = q_lg v (q_gt v w n 8) i) → (C = q_lc v (q_gt v w n 8) i) → ∀ (ls : Array Slot) (H : Heap) (locs : List Loc), va_P D vwCl ([([(x, .inr (4, [.ref (sa 0), .ref (ja 0), .ref (ta 0), .ref h, .ref q]))] : va_W), joW cy ja (q_gt v w n 8), stW cy sa Y] : List va_W).flatten H → va_D A ([([(x, .inr (4, [.ref (sa 0), .ref (ja 0), .ref (ta 0), .ref h, .ref q]))] : va_W), joW cy ja (q_gt v w n 8), stW cy sa Y] : List va_W).flatten → va_S A s.heap H locs → lv_has ls 3 [(2, .int (nI i)), (1, .int C), (0, .ref x)] → W p l e ({ frames := 4, cells := 0, slots := 0, locals := 90 } : Room) s m ([.ref x] : List Value).toArray below meth c H locs 0 0 (MQ below (va_Qi (fun (r : Int32) (bs : List va_W) => r = q_lc v (q_gt v w n 8) 8 ∧ bs = [([(x, .inr (4, [.ref (sa 0), .ref (ja 0), .ref (ta 0), .ref h, .ref q]))] : va_W), joW cy ja (q_gt v w n 8), stW cy sa (q_gp v (q_gt v w n 8))]) (wl_ib D [([(x, .inr (4, [.ref (sa 0), .ref (ja 0), .ref (ta 0), .ref h, .ref q]))] : va_W), joW cy ja w, stW cy sa v] sz) (va_A ([([(x, .inr (4, [.ref (sa 0), .ref (ja 0), .ref (ta 0), .ref h, .ref q]))] : va_W), joW cy ja w, stW cy sa v] : List va_W).flatten sz)) ([.ref x] : List Value).toArray s 0 0 (va_A ([([(x, .inr (4, [.ref (sa 0), .ref (ja 0), .ref (ta 0), .ref h, .ref q]))] : va_W), joW cy ja w, stW cy sa v] : List va_W).flatten sz)) (F0 m 15 ls []) from K3 9 0 0 v (by omega) (by omega) rfl rfl _ _ _ hP hD hS (lv_sub hl [0, 1, 2] rfl)
  intro n4
  induction n4 with
  | zero => intro i C Y hm; exact absurd hm (Nat.not_lt_zero _)
  | succ n4 ih5 =>
    intro i C Y hm hi hW hC ls H locs hP hD hS hl
    refine lv_iload_n hx hb dX4_letGapBe_15 rfl (lv_at hl 0 rfl) ?_
    refine lv_bipush (v := 8) hx hb dX4_letGapBe_16 (by decide) ?_
    refine wl_icmp_ge (tgt := 121) hx hb i 8 dX4_letGapBe_18 (by decide) (by omega) (by omega) (fun c6 => ?_) (fun c6 => ?_)
    · obtain rfl : i = 8 := by omega
      refine lv_aload_n hx hb dX4_letGapBe_121 rfl (lv_at hl 2 rfl) ?_
      refine wl_getf (C := RX4) (T := TX4) (N := 5) (ci := 4) (v := .ref (sa 0)) hx hb hts in_X4 hown hK hP 0 0 rfl rfl rfl 0 (by decide) lkf10 rfl rfl dX4_letGapBe_122 ?_
      refine lv_dup hx hb dX4_letGapBe_125 rfl ?_
      refine wl_getf (C := RX2) (T := TX2) (N := 13) (ci := 2) (v := .int (Y 7 1)) hx hb hts in_X2 hown hK hP 2 0 rfl rfl rfl 8 (by decide) lkf198 rfl rfl dX4_letGapBe_126 ?_
      refine lv_iconst (v := 1) hx hb dX4_letGapBe_129 (by decide) ?_
      refine lv_iadd hx hb dX4_letGapBe_130 ?_
      refine wl_putf (C := RX2) (T := TX2) (N := 13) (ci := 2) (v := .int ((Y 7 1) + 1)) hx hb hts in_X2 tyX2 tyX2_ok nmX2 hown hK hP hD hS 2 0 rfl rfl rfl 8 (by decide) lkf198 rfl rfl rfl rfl (Nat.le_of_ble_eq_true rfl) dX4_letGapBe_131 (fun H locs hP hD hS => ?_)
      have hP : va_P D vwCl ([([(x, .inr (4, [.ref (sa 0), .ref (ja 0), .ref (ta 0), .ref h, .ref q]))] : va_W), joW cy ja (q_gt v w n 8), stW cy sa (su Y 7 1 ((Y 7 1) + 1))] : List va_W).flatten H := hP
      have hD : va_D A ([([(x, .inr (4, [.ref (sa 0), .ref (ja 0), .ref (ta 0), .ref h, .ref q]))] : va_W), joW cy ja (q_gt v w n 8), stW cy sa (su Y 7 1 ((Y 7 1) + 1))] : List va_W).flatten := hD
      refine lv_aload_n hx hb dX4_letGapBe_134 rfl (lv_at hl 2 rfl) ?_
      refine wl_getf (C := RX4) (T := TX4) (N := 5) (ci := 4) (v := .ref (sa 0)) hx hb hts in_X4 hown hK hP 0 0 rfl rfl rfl 0 (by decide) lkf10 rfl rfl dX4_letGapBe_135 ?_
      refine lv_dup hx hb dX4_letGapBe_138 rfl ?_
      refine wl_getf (C := RX2) (T := TX2) (N := 13) (ci := 2) (v := .int (Y 7 2)) hx hb hts in_X2 hown hK hP 2 0 rfl rfl rfl 9 (by decide) lkf201 rfl rfl dX4_letGapBe_139 ?_
      refine lv_aload_n hx hb dX4_letGapBe_142 rfl (lv_at hl 2 rfl) ?_
      refine wl_getf (C := RX4) (T := TX4) (N := 5) (ci := 4) (v := .ref (ja 0)) hx hb hts in_X4 hown hK hP 0 0 rfl rfl rfl 1 (by decide) lkf19 rfl rfl dX4_letGapBe_143 ?_
      refine wl_getf (C := RX1) (T := TX1) (N := 6) (ci := 1) (v := .int ((q_gt v w n 8) 3 0)) hx hb hts in_X1 hown hK hP 1 0 rfl rfl rfl 2 (by decide) lkf274 rfl rfl dX4_letGapBe_146 ?_
      refine lv_iadd hx hb dX4_letGapBe_149 ?_
      refine wl_putf (C := RX2) (T := TX2) (N := 13) (ci := 2) (v := .int ((Y 7 2) + ((q_gt v w n 8) 3 0))) hx hb hts in_X2 tyX2 tyX2_ok nmX2 hown hK hP hD hS 2 0 rfl rfl rfl 9 (by decide) lkf201 rfl rfl rfl rfl (Nat.le_of_ble_eq_true rfl) dX4_letGapBe_150 (fun H locs hP hD hS => ?_)
      have hP : va_P D vwCl ([([(x, .inr (4, [.ref (sa 0), .ref (ja 0), .ref (ta 0), .ref h, .ref q]))] : va_W), joW cy ja (q_gt v w n 8), stW cy sa (su (su Y 7 1 ((Y 7 1) + 1)) 7 2 ((Y 7 2) + ((q_gt v w n 8) 3 0)))] : List va_W).flatten H := hP
      have hD : va_D A ([([(x, .inr (4, [.ref (sa 0), .ref (ja 0), .ref (ta 0), .ref h, .ref q]))] : va_W), joW cy ja (q_gt v w n 8), stW cy sa (su (su Y 7 1 ((Y 7 1) + 1)) 7 2 ((Y 7 2) + ((q_gt v w n 8) 3 0)))] : List va_W).flatten := hD
      refine lv_aload_n hx hb dX4_letGapBe_153 rfl (lv_at hl 2 rfl) ?_
      refine wl_getf (C := RX4) (T := TX4) (N := 5) (ci := 4) (v := .ref (sa 0)) hx hb hts in_X4 hown hK hP 0 0 rfl rfl rfl 0 (by decide) lkf10 rfl rfl dX4_letGapBe_154 ?_
      refine lv_dup hx hb dX4_letGapBe_157 rfl ?_
      refine wl_getf (C := RX2) (T := TX2) (N := 13) (ci := 2) (v := .int (Y 7 3)) hx hb hts in_X2 hown hK hP 2 0 rfl rfl rfl 10 (by decide) lkf204 rfl rfl dX4_letGapBe_158 ?_
      refine lv_aload_n hx hb dX4_letGapBe_161 rfl (lv_at hl 2 rfl) ?_
      refine wl_getf (C := RX4) (T := TX4) (N := 5) (ci := 4) (v := .ref (sa 0)) hx hb hts in_X4 hown hK hP 0 0 rfl rfl rfl 0 (by decide) lkf10 rfl rfl dX4_letGapBe_162 ?_
      refine wl_getf (C := RX2) (T := TX2) (N := 13) (ci := 2) (v := .int (Y 7 0)) hx hb hts in_X2 hown hK hP 2 0 rfl rfl rfl 7 (by decide) lkf99 rfl rfl dX4_letGapBe_165 ?_
      refine lv_aload_n hx hb dX4_letGapBe_168 rfl (lv_at hl 2 rfl) ?_
      refine wl_getf (C := RX4) (T := TX4) (N := 5) (ci := 4) (v := .ref (ja 0)) hx hb hts in_X4 hown hK hP 0 0 rfl rfl rfl 1 (by decide) lkf19 rfl rfl dX4_letGapBe_169 ?_
      refine wl_getf (C := RX1) (T := TX1) (N := 6) (ci := 1) (v := .int ((q_gt v w n 8) 3 0)) hx hb hts in_X1 hown hK hP 1 0 rfl rfl rfl 2 (by decide) lkf274 rfl rfl dX4_letGapBe_172 ?_
      refine lv_isub hx hb dX4_letGapBe_175 ?_
      refine lv_iadd hx hb dX4_letGapBe_176 ?_
      refine wl_putf (C := RX2) (T := TX2) (N := 13) (ci := 2) (v := .int ((Y 7 3) + ((Y 7 0) - ((q_gt v w n 8) 3 0)))) hx hb hts in_X2 tyX2 tyX2_ok nmX2 hown hK hP hD hS 2 0 rfl rfl rfl 10 (by decide) lkf204 rfl rfl rfl rfl (Nat.le_of_ble_eq_true rfl) dX4_letGapBe_177 (fun H locs hP hD hS => ?_)
      have hP : va_P D vwCl ([([(x, .inr (4, [.ref (sa 0), .ref (ja 0), .ref (ta 0), .ref h, .ref q]))] : va_W), joW cy ja (q_gt v w n 8), stW cy sa (su (su (su Y 7 1 ((Y 7 1) + 1)) 7 2 ((Y 7 2) + ((q_gt v w n 8) 3 0))) 7 3 ((Y 7 3) + ((Y 7 0) - ((q_gt v w n 8) 3 0))))] : List va_W).flatten H := hP
      have hD : va_D A ([([(x, .inr (4, [.ref (sa 0), .ref (ja 0), .ref (ta 0), .ref h, .ref q]))] : va_W), joW cy ja (q_gt v w n 8), stW cy sa (su (su (su Y 7 1 ((Y 7 1) + 1)) 7 2 ((Y 7 2) + ((q_gt v w n 8) 3 0))) 7 3 ((Y 7 3) + ((Y 7 0) - ((q_gt v w n 8) 3 0))))] : List va_W).flatten := hD
      refine lv_aload_n hx hb dX4_letGapBe_180 rfl (lv_at hl 2 rfl) ?_
      refine wl_getf (C := RX4) (T := TX4) (N := 5) (ci := 4) (v := .ref (sa 0)) hx hb hts in_X4 hown hK hP 0 0 rfl rfl rfl 0 (by decide) lkf10 rfl rfl dX4_letGapBe_181 ?_
      refine lv_iconst (v := 0) hx hb dX4_letGapBe_184 (by decide) ?_
      refine wl_putf (C := RX2) (T := TX2) (N := 13) (ci := 2) (v := .int 0) hx hb hts in_X2 tyX2 tyX2_ok nmX2 hown hK hP hD hS 2 0 rfl rfl rfl 7 (by decide) lkf99 rfl rfl rfl rfl (Nat.le_of_ble_eq_true rfl) dX4_letGapBe_185 (fun H locs hP hD hS => ?_)
      have hP : va_P D vwCl ([([(x, .inr (4, [.ref (sa 0), .ref (ja 0), .ref (ta 0), .ref h, .ref q]))] : va_W), joW cy ja (q_gt v w n 8), stW cy sa (su (su (su (su Y 7 1 ((Y 7 1) + 1)) 7 2 ((Y 7 2) + ((q_gt v w n 8) 3 0))) 7 3 ((Y 7 3) + ((Y 7 0) - ((q_gt v w n 8) 3 0)))) 7 0 0)] : List va_W).flatten H := hP
      have hD : va_D A ([([(x, .inr (4, [.ref (sa 0), .ref (ja 0), .ref (ta 0), .ref h, .ref q]))] : va_W), joW cy ja (q_gt v w n 8), stW cy sa (su (su (su (su Y 7 1 ((Y 7 1) + 1)) 7 2 ((Y 7 2) + ((q_gt v w n 8) 3 0))) 7 3 ((Y 7 3) + ((Y 7 0) - ((q_gt v w n 8) 3 0)))) 7 0 0)] : List va_W).flatten := hD
      refine lv_iload_n hx hb dX4_letGapBe_188 rfl (lv_at hl 1 rfl) ?_
      exact wl_Ri (bs := [([(x, .inr (4, [.ref (sa 0), .ref (ja 0), .ref (ta 0), .ref h, .ref q]))] : va_W), joW cy ja (q_gt v w n 8), stW cy sa (su (su (su (su Y 7 1 ((Y 7 1) + 1)) 7 2 ((Y 7 2) + ((q_gt v w n 8) 3 0))) 7 3 ((Y 7 3) + ((Y 7 0) - ((q_gt v w n 8) 3 0)))) 7 0 0)]) (r := C) hx hb hr hlocks hAe hP hD hS (by subst hC; subst hW; exact ⟨rfl, rfl⟩) dX4_letGapBe_189
    · refine lv_aload_n hx hb dX4_letGapBe_21 rfl (lv_at hl 2 rfl) ?_
      refine wl_getf (C := RX4) (T := TX4) (N := 5) (ci := 4) (v := .ref (sa 0)) hx hb hts in_X4 hown hK hP 0 0 rfl rfl rfl 0 (by decide) lkf10 rfl rfl dX4_letGapBe_22 ?_
      refine wl_getf (C := RX2) (T := TX2) (N := 13) (ci := 2) (v := .ref (sa 3)) hx hb hts in_X2 hown hK hP 2 0 rfl rfl rfl 2 (by decide) lkf172 rfl rfl dX4_letGapBe_25 ?_
      refine lv_iload_n hx hb dX4_letGapBe_28 rfl (lv_at hl 0 rfl) ?_
      refine wl_iald hx hb hK hP 2 3 rfl rfl i (by omega) (Nat.le_of_ble_eq_true rfl) dX4_letGapBe_29 ?_
      refine lv_aload_n hx hb dX4_letGapBe_30 rfl (lv_at hl 2 rfl) ?_
      refine wl_getf (C := RX4) (T := TX4) (N := 5) (ci := 4) (v := .ref (ja 0)) hx hb hts in_X4 hown hK hP 0 0 rfl rfl rfl 1 (by decide) lkf19 rfl rfl dX4_letGapBe_31 ?_
      refine wl_getf (C := RX1) (T := TX1) (N := 6) (ci := 1) (v := .ref (ja 2)) hx hb hts in_X1 hown hK hP 1 0 rfl rfl rfl 1 (by decide) lkf226 rfl rfl dX4_letGapBe_34 ?_
      refine lv_iload_n hx hb dX4_letGapBe_37 rfl (lv_at hl 0 rfl) ?_
      refine wl_iald hx hb hK hP 1 2 rfl rfl i (by omega) (Nat.le_of_ble_eq_true rfl) dX4_letGapBe_38 ?_
      have K9 : ∀ (ls : Array Slot) (H : Heap) (locs : List Loc) (v8 : Int32), v8 = (if (Y 2 i) = ((q_gt v w n 8) 1 i) then C else (C + 1)) → va_P D vwCl ([([(x, .inr (4, [.ref (sa 0), .ref (ja 0), .ref (ta 0), .ref h, .ref q]))] : va_W), joW cy ja (q_gt v w n 8), stW cy sa Y] : List va_W).flatten H → va_D A ([([(x, .inr (4, [.ref (sa 0), .ref (ja 0), .ref (ta 0), .ref h, .ref q]))] : va_W), joW cy ja (q_gt v w n 8), stW cy sa Y] : List va_W).flatten → va_S A s.heap H locs → lv_has ls 3 [(2, .int (nI i)), (1, .int v8), (0, .ref x)] → W p l e ({ frames := 4, cells := 0, slots := 0, locals := 90 } : Room) s m ([.ref x] : List Value).toArray below meth c H locs 0 0 (MQ below (va_Qi (fun (r : Int32) (bs : List va_W) => r = q_lc v (q_gt v w n 8) 8 ∧ bs = [([(x, .inr (4, [.ref (sa 0), .ref (ja 0), .ref (ta 0), .ref h, .ref q]))] : va_W), joW cy ja (q_gt v w n 8), stW cy sa (q_gp v (q_gt v w n 8))]) (wl_ib D [([(x, .inr (4, [.ref (sa 0), .ref (ja 0), .ref (ta 0), .ref h, .ref q]))] : va_W), joW cy ja w, stW cy sa v] sz) (va_A ([([(x, .inr (4, [.ref (sa 0), .ref (ja 0), .ref (ta 0), .ref h, .ref q]))] : va_W), joW cy ja w, stW cy sa v] : List va_W).flatten sz)) ([.ref x] : List Value).toArray s 0 0 (va_A ([([(x, .inr (4, [.ref (sa 0), .ref (ja 0), .ref (ta 0), .ref h, .ref q]))] : va_W), joW cy ja w, stW cy sa v] : List va_W).flatten sz)) (F0 m 45 ls []) := by
        intro ls H locs v8 ev8 hP hD hS hl
        refine lv_aload_n hx hb dX4_letGapBe_45 rfl (lv_at hl 2 rfl) ?_
        refine wl_getf (C := RX4) (T := TX4) (N := 5) (ci := 4) (v := .ref (sa 0)) hx hb hts in_X4 hown hK hP 0 0 rfl rfl rfl 0 (by decide) lkf10 rfl rfl dX4_letGapBe_46 ?_
        refine wl_getf (C := RX2) (T := TX2) (N := 13) (ci := 2) (v := .ref (sa 3)) hx hb hts in_X2 hown hK hP 2 0 rfl rfl rfl 2 (by decide) lkf172 rfl rfl dX4_letGapBe_49 ?_
        refine lv_iload_n hx hb dX4_letGapBe_52 rfl (lv_at hl 0 rfl) ?_
        refine lv_aload_n hx hb dX4_letGapBe_53 rfl (lv_at hl 2 rfl) ?_
        refine wl_getf (C := RX4) (T := TX4) (N := 5) (ci := 4) (v := .ref (ja 0)) hx hb hts in_X4 hown hK hP 0 0 rfl rfl rfl 1 (by decide) lkf19 rfl rfl dX4_letGapBe_54 ?_
        refine wl_getf (C := RX1) (T := TX1) (N := 6) (ci := 1) (v := .ref (ja 2)) hx hb hts in_X1 hown hK hP 1 0 rfl rfl rfl 1 (by decide) lkf226 rfl rfl dX4_letGapBe_57 ?_
        refine lv_iload_n hx hb dX4_letGapBe_60 rfl (lv_at hl 0 rfl) ?_
        refine wl_iald hx hb hK hP 1 2 rfl rfl i (by omega) (Nat.le_of_ble_eq_true rfl) dX4_letGapBe_61 ?_
        refine wl_iast hx hb hK hP hD hS 2 3 rfl rfl i (by omega) (Nat.le_of_ble_eq_true rfl) dX4_letGapBe_62 (fun H locs hP hD hS => ?_)
        have hP : va_P D vwCl ([([(x, .inr (4, [.ref (sa 0), .ref (ja 0), .ref (ta 0), .ref h, .ref q]))] : va_W), joW cy ja (q_gt v w n 8), stW cy sa (su Y 2 i ((q_gt v w n 8) 1 i))] : List va_W).flatten H := hP
        have hD : va_D A ([([(x, .inr (4, [.ref (sa 0), .ref (ja 0), .ref (ta 0), .ref h, .ref q]))] : va_W), joW cy ja (q_gt v w n 8), stW cy sa (su Y 2 i ((q_gt v w n 8) 1 i))] : List va_W).flatten := hD
        refine lv_aload_n hx hb dX4_letGapBe_63 rfl (lv_at hl 2 rfl) ?_
        refine wl_getf (C := RX4) (T := TX4) (N := 5) (ci := 4) (v := .ref (sa 0)) hx hb hts in_X4 hown hK hP 0 0 rfl rfl rfl 0 (by decide) lkf10 rfl rfl dX4_letGapBe_64 ?_
        refine wl_getf (C := RX2) (T := TX2) (N := 13) (ci := 2) (v := .ref (sa 5)) hx hb hts in_X2 hown hK hP 2 0 rfl rfl rfl 4 (by decide) lkf188 rfl rfl dX4_letGapBe_67 ?_
        refine lv_iload_n hx hb dX4_letGapBe_70 rfl (lv_at hl 0 rfl) ?_
        refine lv_aload_n hx hb dX4_letGapBe_71 rfl (lv_at hl 2 rfl) ?_
        refine wl_getf (C := RX4) (T := TX4) (N := 5) (ci := 4) (v := .ref (ja 0)) hx hb hts in_X4 hown hK hP 0 0 rfl rfl rfl 1 (by decide) lkf19 rfl rfl dX4_letGapBe_72 ?_
        refine wl_getf (C := RX1) (T := TX1) (N := 6) (ci := 1) (v := .ref (ja 1)) hx hb hts in_X1 hown hK hP 1 0 rfl rfl rfl 0 (by decide) lkf273 rfl rfl dX4_letGapBe_75 ?_
        refine lv_iload_n hx hb dX4_letGapBe_78 rfl (lv_at hl 0 rfl) ?_
        refine wl_iald hx hb hK hP 1 1 rfl rfl i (by omega) (Nat.le_of_ble_eq_true rfl) dX4_letGapBe_79 ?_
        refine wl_iast hx hb hK hP hD hS 2 5 rfl rfl i (by omega) (Nat.le_of_ble_eq_true rfl) dX4_letGapBe_80 (fun H locs hP hD hS => ?_)
        have hP : va_P D vwCl ([([(x, .inr (4, [.ref (sa 0), .ref (ja 0), .ref (ta 0), .ref h, .ref q]))] : va_W), joW cy ja (q_gt v w n 8), stW cy sa (su (su Y 2 i ((q_gt v w n 8) 1 i)) 4 i ((q_gt v w n 8) 0 i))] : List va_W).flatten H := hP
        have hD : va_D A ([([(x, .inr (4, [.ref (sa 0), .ref (ja 0), .ref (ta 0), .ref h, .ref q]))] : va_W), joW cy ja (q_gt v w n 8), stW cy sa (su (su Y 2 i ((q_gt v w n 8) 1 i)) 4 i ((q_gt v w n 8) 0 i))] : List va_W).flatten := hD
        refine lv_aload_n hx hb dX4_letGapBe_81 rfl (lv_at hl 2 rfl) ?_
        refine wl_getf (C := RX4) (T := TX4) (N := 5) (ci := 4) (v := .ref (sa 0)) hx hb hts in_X4 hown hK hP 0 0 rfl rfl rfl 0 (by decide) lkf10 rfl rfl dX4_letGapBe_82 ?_
        refine wl_getf (C := RX2) (T := TX2) (N := 13) (ci := 2) (v := .ref (sa 4)) hx hb hts in_X2 hown hK hP 2 0 rfl rfl rfl 3 (by decide) lkf175 rfl rfl dX4_letGapBe_85 ?_
        refine lv_iload_n hx hb dX4_letGapBe_88 rfl (lv_at hl 0 rfl) ?_
        refine lv_aload_n hx hb dX4_letGapBe_89 rfl (lv_at hl 2 rfl) ?_
        refine wl_getf (C := RX4) (T := TX4) (N := 5) (ci := 4) (v := .ref (sa 0)) hx hb hts in_X4 hown hK hP 0 0 rfl rfl rfl 0 (by decide) lkf10 rfl rfl dX4_letGapBe_90 ?_
        refine wl_getf (C := RX2) (T := TX2) (N := 13) (ci := 2) (v := .ref (sa 1)) hx hb hts in_X2 hown hK hP 2 0 rfl rfl rfl 0 (by decide) lkf61 rfl rfl dX4_letGapBe_93 ?_
        refine lv_iload_n hx hb dX4_letGapBe_96 rfl (lv_at hl 0 rfl) ?_
        refine wl_iald hx hb hK hP 2 1 rfl rfl i (by omega) (Nat.le_of_ble_eq_true rfl) dX4_letGapBe_97 ?_
        have K12 : ∀ (ls : Array Slot) (H : Heap) (locs : List Loc) (v11 : Int32), v11 = (if ((su (su Y 2 i ((q_gt v w n 8) 1 i)) 4 i ((q_gt v w n 8) 0 i)) 0 i) = 0 then ((q_gt v w n 8) 1 i) else 0) → va_P D vwCl ([([(x, .inr (4, [.ref (sa 0), .ref (ja 0), .ref (ta 0), .ref h, .ref q]))] : va_W), joW cy ja (q_gt v w n 8), stW cy sa (su (su Y 2 i ((q_gt v w n 8) 1 i)) 4 i ((q_gt v w n 8) 0 i))] : List va_W).flatten H → va_D A ([([(x, .inr (4, [.ref (sa 0), .ref (ja 0), .ref (ta 0), .ref h, .ref q]))] : va_W), joW cy ja (q_gt v w n 8), stW cy sa (su (su Y 2 i ((q_gt v w n 8) 1 i)) 4 i ((q_gt v w n 8) 0 i))] : List va_W).flatten → va_S A s.heap H locs → lv_has ls 3 [(2, .int (nI i)), (1, .int v8), (0, .ref x)] → W p l e ({ frames := 4, cells := 0, slots := 0, locals := 90 } : Room) s m ([.ref x] : List Value).toArray below meth c H locs 0 0 (MQ below (va_Qi (fun (r : Int32) (bs : List va_W) => r = q_lc v (q_gt v w n 8) 8 ∧ bs = [([(x, .inr (4, [.ref (sa 0), .ref (ja 0), .ref (ta 0), .ref h, .ref q]))] : va_W), joW cy ja (q_gt v w n 8), stW cy sa (q_gp v (q_gt v w n 8))]) (wl_ib D [([(x, .inr (4, [.ref (sa 0), .ref (ja 0), .ref (ta 0), .ref h, .ref q]))] : va_W), joW cy ja w, stW cy sa v] sz) (va_A ([([(x, .inr (4, [.ref (sa 0), .ref (ja 0), .ref (ta 0), .ref h, .ref q]))] : va_W), joW cy ja w, stW cy sa v] : List va_W).flatten sz)) ([.ref x] : List Value).toArray s 0 0 (va_A ([([(x, .inr (4, [.ref (sa 0), .ref (ja 0), .ref (ta 0), .ref h, .ref q]))] : va_W), joW cy ja w, stW cy sa v] : List va_W).flatten sz)) (F0 m 114 ls [.int v11, .int (nI i), .ref (sa 4)]) := by
          intro ls H locs v11 ev11 hP hD hS hl
          refine wl_iast hx hb hK hP hD hS 2 4 rfl rfl i (by omega) (Nat.le_of_ble_eq_true rfl) dX4_letGapBe_114 (fun H locs hP hD hS => ?_)
          have hP : va_P D vwCl ([([(x, .inr (4, [.ref (sa 0), .ref (ja 0), .ref (ta 0), .ref h, .ref q]))] : va_W), joW cy ja (q_gt v w n 8), stW cy sa (su (su (su Y 2 i ((q_gt v w n 8) 1 i)) 4 i ((q_gt v w n 8) 0 i)) 3 i v11)] : List va_W).flatten H := hP
          have hD : va_D A ([([(x, .inr (4, [.ref (sa 0), .ref (ja 0), .ref (ta 0), .ref h, .ref q]))] : va_W), joW cy ja (q_gt v w n 8), stW cy sa (su (su (su Y 2 i ((q_gt v w n 8) 1 i)) 4 i ((q_gt v w n 8) 0 i)) 3 i v11)] : List va_W).flatten := hD
          refine lv_iinc (v := nI (i + 1)) (lv' := [(2, .int (nI (i + 1))), (1, .int v8), (0, .ref x)]) hx hb dX4_letGapBe_115 hl (k := 0) rfl (wl_inc i) (by decide) rfl (fun ls hl => ?_)
          refine lv_goto (tgt := 15) hx hb dX4_letGapBe_118 (by decide) ?_
          subst ev8 ev11
          exact ih5 (i + 1) (if (Y 2 i) = ((q_gt v w n 8) 1 i) then C else (C + 1)) (su (su (su Y 2 i ((q_gt v w n 8) 1 i)) 4 i ((q_gt v w n 8) 0 i)) 3 i (if ((su (su Y 2 i ((q_gt v w n 8) 1 i)) 4 i ((q_gt v w n 8) 0 i)) 0 i) = 0 then ((q_gt v w n 8) 1 i) else 0)) (by omega) (by omega) (by rw [hW]; rfl) (by rw [hC, hW]; rfl) _ _ _ hP hD hS (lv_sub hl [0, 1, 2] rfl)
        refine lv_if_ne (tgt := 113) hx hb dX4_letGapBe_98 (by decide) (fun c10 => ?_) (fun c10 => ?_)
        · refine lv_iconst (v := 0) hx hb dX4_letGapBe_113 (by decide) ?_
          exact K12 _ _ _ 0 (by rw [if_neg c10]) hP hD hS (lv_sub hl [0, 1, 2] rfl)
        · refine lv_aload_n hx hb dX4_letGapBe_101 rfl (lv_at hl 2 rfl) ?_
          refine wl_getf (C := RX4) (T := TX4) (N := 5) (ci := 4) (v := .ref (ja 0)) hx hb hts in_X4 hown hK hP 0 0 rfl rfl rfl 1 (by decide) lkf19 rfl rfl dX4_letGapBe_102 ?_
          refine wl_getf (C := RX1) (T := TX1) (N := 6) (ci := 1) (v := .ref (ja 2)) hx hb hts in_X1 hown hK hP 1 0 rfl rfl rfl 1 (by decide) lkf226 rfl rfl dX4_letGapBe_105 ?_
          refine lv_iload_n hx hb dX4_letGapBe_108 rfl (lv_at hl 0 rfl) ?_
          refine wl_iald hx hb hK hP 1 2 rfl rfl i (by omega) (Nat.le_of_ble_eq_true rfl) dX4_letGapBe_109 ?_
          refine lv_goto (tgt := 114) hx hb dX4_letGapBe_110 (by decide) ?_
          exact K12 _ _ _ ((q_gt v w n 8) 1 i) (by rw [if_pos c10]) hP hD hS (lv_sub hl [0, 1, 2] rfl)
      refine lv_icmp_eq (tgt := 45) hx hb dX4_letGapBe_39 (by decide) (fun c7 => ?_) (fun c7 => ?_)
      · exact K9 _ _ _ C (by rw [if_pos c7]) hP hD hS (lv_sub hl [0, 1, 2] rfl)
      · refine lv_iinc (v := C + 1) (lv' := [(1, .int (C + 1)), (2, .int (nI i)), (0, .ref x)]) hx hb dX4_letGapBe_42 hl (k := 1) rfl rfl (by decide) rfl (fun ls hl => ?_)
        exact K9 _ _ _ (C + 1) (by rw [if_neg c7]) hP hD hS (lv_sub hl [1, 0, 2] rfl)
