/-! State: the small methods -/
set_option maxHeartbeats 4000000 in
set_option maxRecDepth 100000 in
theorem m_X2_shortened (l : Launch) (D : va_G) (cy : Nat → ClassId) (x l2 : Int32)  : Met l yX2_shortened wsX2_shortened ({ frames := 0, cells := 0, slots := 0, locals := 0 } : Room) (wl_pc D cy [] [.int x, .int l2]) (vp_Si (fun r : Int32 => r = q_sh x l2)) 0 0 (fun _ => False) := by
  refine wl_ofP (cc := cX2_shortened) (maxL := 2) (ret := (some .int)) (by decide) rfl (Nat.le_of_ble_eq_true rfl) ?_
  intro p e s m below meth c ls hx hb hr hts hown hlocks hml hP hK hl
  have hl : lv_has ls 2 [(0, .int x), (1, .int l2)] := hl
  refine lv_iload_n hx hb dX2_shortened_0 rfl (lv_at hl 0 rfl) ?_
  refine lv_iload_n hx hb dX2_shortened_1 rfl (lv_at hl 1 rfl) ?_
  refine lv_isub hx hb dX2_shortened_2 ?_
  refine lv_iconst (v := 1) hx hb dX2_shortened_3 (by decide) ?_
  have K3 : ∀ (ls : Array Slot) (v2 : Int32), v2 = (if 1 ≤ (x - l2) then (x - l2) else 1) → lv_has ls 2 [] → W p l e ({ frames := 0, cells := 0, slots := 0, locals := 0 } : Room) s m ([.int x, .int l2] : List Value).toArray below meth c s.heap [] 0 0 (MQ below (vp_Si (fun r : Int32 => r = q_sh x l2)) ([.int x, .int l2] : List Value).toArray s 0 0 (fun _ => False)) (F0 m 14 ls [.int v2]) := by
    intro ls v2 ev2  hl
    exact wl_ri (r := v2) hx hb hr hlocks (by subst ev2; rfl) dX2_shortened_14
  refine lv_icmp_ge (tgt := 11) hx hb dX2_shortened_4 (by decide) (fun c1 => ?_) (fun c1 => ?_)
  · refine lv_iload_n hx hb dX2_shortened_11 rfl (lv_at hl 0 rfl) ?_
    refine lv_iload_n hx hb dX2_shortened_12 rfl (lv_at hl 1 rfl) ?_
    refine lv_isub hx hb dX2_shortened_13 ?_
    exact K3 _ (x - l2) (by rw [if_pos c1]) (lv_sub hl [] rfl)
  · refine lv_iconst (v := 1) hx hb dX2_shortened_7 (by decide) ?_
    refine lv_goto (tgt := 14) hx hb dX2_shortened_8 (by decide) ?_
    exact K3 _ 1 (by rw [if_neg c1]) (lv_sub hl [] rfl)
set_option maxHeartbeats 4000000 in
set_option maxRecDepth 100000 in
theorem m_X2_lengthFor (l : Launch) (D : va_G) (cy : Nat → ClassId) (P : Prop) [Decidable P]  : Met l yX2_lengthFor wsX2_lengthFor ({ frames := 0, cells := 0, slots := 0, locals := 0 } : Room) (wl_pc D cy [] [.int (if P then 1 else 0)]) (vp_Si (fun r : Int32 => r = if P then 8 else 4)) 0 0 (fun _ => False) := by
  refine wl_ofP (cc := cX2_lengthFor) (maxL := 1) (ret := (some .int)) (by decide) rfl (Nat.le_of_ble_eq_true rfl) ?_
  intro p e s m below meth c ls hx hb hr hts hown hlocks hml hP hK hl
  have hl : lv_has ls 1 [(0, .int (if P then 1 else 0))] := hl
  refine lv_iload_n hx hb dX2_lengthFor_0 rfl (lv_at hl 0 rfl) ?_
  have K3 : ∀ (ls : Array Slot) (v2 : Int32), v2 = (if P then 8 else 4) → lv_has ls 1 [] → W p l e ({ frames := 0, cells := 0, slots := 0, locals := 0 } : Room) s m ([.int (if P then 1 else 0)] : List Value).toArray below meth c s.heap [] 0 0 (MQ below (vp_Si (fun r : Int32 => r = if P then 8 else 4)) ([.int (if P then 1 else 0)] : List Value).toArray s 0 0 (fun _ => False)) (F0 m 10 ls [.int v2]) := by
    intro ls v2 ev2  hl
    exact wl_ri (r := v2) hx hb hr hlocks (by subst ev2; rfl) dX2_lengthFor_10
  refine wl_b_eq (tgt := 9) hx hb P rfl dX2_lengthFor_1 (by decide) (fun c1 => ?_) (fun c1 => ?_)
  · refine lv_iconst (v := 4) hx hb dX2_lengthFor_9 (by decide) ?_
    exact K3 _ 4 (by rw [if_neg c1]) (lv_sub hl [] rfl)
  · refine lv_bipush (v := 8) hx hb dX2_lengthFor_4 (by decide) ?_
    refine lv_goto (tgt := 10) hx hb dX2_lengthFor_6 (by decide) ?_
    exact K3 _ 8 (by rw [if_pos c1]) (lv_sub hl [] rfl)
set_option maxHeartbeats 4000000 in
set_option maxRecDepth 100000 in
theorem m_X2_brightnessOf (l : Launch) (D : va_G) (cy : Nat → ClassId) (x k : Int32)  : Met l yX2_brightnessOf wsX2_brightnessOf ({ frames := 0, cells := 0, slots := 0, locals := 0 } : Room) (wl_pc D cy [] [.int x, .int k]) (vp_Si (fun r : Int32 => r = q_br x k)) 0 0 (fun _ => False) := by
  refine wl_ofP (cc := cX2_brightnessOf) (maxL := 2) (ret := (some .int)) (by decide) rfl (Nat.le_of_ble_eq_true rfl) ?_
  intro p e s m below meth c ls hx hb hr hts hown hlocks hml hP hK hl
  have hl : lv_has ls 2 [(0, .int x), (1, .int k)] := hl
  refine lv_iload_n hx hb dX2_brightnessOf_0 rfl (lv_at hl 0 rfl) ?_
  refine lv_bipush (v := 8) hx hb dX2_brightnessOf_1 (by decide) ?_
  refine lv_iconst (v := 4) hx hb dX2_brightnessOf_3 (by decide) ?_
  refine lv_iload_n hx hb dX2_brightnessOf_4 rfl (lv_at hl 1 rfl) ?_
  refine lv_imul hx hb dX2_brightnessOf_5 ?_
  refine lv_isub hx hb dX2_brightnessOf_6 ?_
  refine lv_ishr hx hb dX2_brightnessOf_7 ?_
  refine lv_bipush (v := 15) hx hb dX2_brightnessOf_8 (by decide) ?_
  refine lv_iand hx hb dX2_brightnessOf_10 ?_
  exact wl_ri (r := ((x >>> ((8 - (4 * k)) &&& 31)) &&& 15)) hx hb hr hlocks (by rfl) dX2_brightnessOf_11
set_option maxHeartbeats 4000000 in
set_option maxRecDepth 100000 in
theorem m_X2_takesWords (l : Launch) (D : va_G) (cy : Nat → ClassId) (a : Nat → Nat) (v : Nat → Nat → Int32) (j : Nat) (hj : j < 8) : Met l yX2_takesWords wsX2_takesWords ({ frames := 0, cells := 0, slots := 0, locals := 0 } : Room) (wl_pc D cy [stW cy a v] [.ref (a 0), .int (nI j)]) (vp_Si (fun r : Int32 => r = if (v 0 j = 0 ∨ v 0 j = 1) then 1 else 0)) 0 0 (fun _ => False) := by
  refine wl_ofP (cc := cX2_takesWords) (maxL := 2) (ret := (some .boolean)) (by decide) rfl (Nat.le_of_ble_eq_true rfl) ?_
  intro p e s m below meth c ls hx hb hr hts hown hlocks hml hP hK hl
  have hl : lv_has ls 2 [(0, .ref (a 0)), (1, .int (nI j))] := hl
  have lkf9 := hts (.fieldLink RX2 9 "WireLamps$State" "modes" "[I") (by decide +kernel)
  have in_X2 : ∀ w ∈ u_ws RX2 TX2 13, w ∈ wsX2_takesWords := by decide +kernel
  refine lv_aload_n hx hb dX2_takesWords_0 rfl (lv_at hl 0 rfl) ?_
  refine wl_getf (C := RX2) (T := TX2) (N := 13) (ci := 2) (v := .ref (a 1)) hx hb hts in_X2 hown hK hP 0 0 rfl rfl rfl 0 (by decide) lkf9 rfl rfl dX2_takesWords_1 ?_
  refine lv_iload_n hx hb dX2_takesWords_4 rfl (lv_at hl 1 rfl) ?_
  refine wl_iald hx hb hK hP 0 1 rfl rfl j (by omega) (Nat.le_of_ble_eq_true rfl) dX2_takesWords_5 ?_
  refine lv_if_eq (tgt := 19) hx hb dX2_takesWords_6 (by decide) (fun c1 => ?_) (fun c1 => ?_)
  · refine lv_iconst (v := 1) hx hb dX2_takesWords_19 (by decide) ?_
    refine lv_goto (tgt := 24) hx hb dX2_takesWords_20 (by decide) ?_
    exact wl_rz (r := 1) (True) hx hb hr hlocks (by rfl) (by exact (if_pos (by first | assumption | omega | simp [c1] | simp_all)).symm) dX2_takesWords_24
  · refine lv_aload_n hx hb dX2_takesWords_9 rfl (lv_at hl 0 rfl) ?_
    refine wl_getf (C := RX2) (T := TX2) (N := 13) (ci := 2) (v := .ref (a 1)) hx hb hts in_X2 hown hK hP 0 0 rfl rfl rfl 0 (by decide) lkf9 rfl rfl dX2_takesWords_10 ?_
    refine lv_iload_n hx hb dX2_takesWords_13 rfl (lv_at hl 1 rfl) ?_
    refine wl_iald hx hb hK hP 0 1 rfl rfl j (by omega) (Nat.le_of_ble_eq_true rfl) dX2_takesWords_14 ?_
    refine lv_iconst (v := 1) hx hb dX2_takesWords_15 (by decide) ?_
    refine lv_icmp_ne (tgt := 23) hx hb dX2_takesWords_16 (by decide) (fun c2 => ?_) (fun c2 => ?_)
    · refine lv_iconst (v := 0) hx hb dX2_takesWords_23 (by decide) ?_
      exact wl_rz (r := 0) (False) hx hb hr hlocks (by rfl) (by exact (if_neg (by first | assumption | omega | simp [c1, c2] | simp_all)).symm) dX2_takesWords_24
    · refine lv_iconst (v := 1) hx hb dX2_takesWords_19 (by decide) ?_
      refine lv_goto (tgt := 24) hx hb dX2_takesWords_20 (by decide) ?_
      exact wl_rz (r := 1) (True) hx hb hr hlocks (by rfl) (by exact (if_pos (by first | assumption | omega | simp [c1, c2] | simp_all)).symm) dX2_takesWords_24
set_option maxHeartbeats 4000000 in
set_option maxRecDepth 100000 in
theorem m_X2_isReadAs1 (l : Launch) (D : va_G) (cy : Nat → ClassId) (a : Nat → Nat) (v : Nat → Nat → Int32) (x : Int32)  : Met l yX2_isReadAs1 wsX2_isReadAs1 ({ frames := 0, cells := 0, slots := 0, locals := 0 } : Room) (wl_pc D cy [stW cy a v] [.ref (a 0), .int x]) (vp_Si (fun r : Int32 => r = if (¬ x < v 5 0) then 1 else 0)) 0 0 (fun _ => False) := by
  refine wl_ofP (cc := cX2_isReadAs1) (maxL := 2) (ret := (some .boolean)) (by decide) rfl (Nat.le_of_ble_eq_true rfl) ?_
  intro p e s m below meth c ls hx hb hr hts hown hlocks hml hP hK hl
  have hl : lv_has ls 2 [(0, .ref (a 0)), (1, .int x)] := hl
  have lkf27 := hts (.fieldLink RX2 27 "WireLamps$State" "settings" "[I") (by decide +kernel)
  have in_X2 : ∀ w ∈ u_ws RX2 TX2 13, w ∈ wsX2_isReadAs1 := by decide +kernel
  refine lv_iload_n hx hb dX2_isReadAs1_0 rfl (lv_at hl 1 rfl) ?_
  refine lv_aload_n hx hb dX2_isReadAs1_1 rfl (lv_at hl 0 rfl) ?_
  refine wl_getf (C := RX2) (T := TX2) (N := 13) (ci := 2) (v := .ref (a 6)) hx hb hts in_X2 hown hK hP 0 0 rfl rfl rfl 5 (by decide) lkf27 rfl rfl dX2_isReadAs1_2 ?_
  refine lv_iconst (v := 0) hx hb dX2_isReadAs1_5 (by decide) ?_
  refine wl_iald hx hb hK hP 0 6 rfl rfl 0 (by omega) (Nat.le_of_ble_eq_true rfl) dX2_isReadAs1_6 ?_
  refine lv_icmp_lt (tgt := 14) hx hb dX2_isReadAs1_7 (by decide) (fun c1 => ?_) (fun c1 => ?_)
  · refine lv_iconst (v := 0) hx hb dX2_isReadAs1_14 (by decide) ?_
    exact wl_rz (r := 0) (False) hx hb hr hlocks (by rfl) (by exact (if_neg (by first | assumption | omega | simp [c1] | simp_all)).symm) dX2_isReadAs1_15
  · refine lv_iconst (v := 1) hx hb dX2_isReadAs1_10 (by decide) ?_
    refine lv_goto (tgt := 15) hx hb dX2_isReadAs1_11 (by decide) ?_
    exact wl_rz (r := 1) (True) hx hb hr hlocks (by rfl) (by exact (if_pos (by first | assumption | omega | simp [c1] | simp_all)).symm) dX2_isReadAs1_15
set_option maxHeartbeats 4000000 in
set_option maxRecDepth 100000 in
theorem m_X2_hasRoomFor (l : Launch) (D : va_G) (cy : Nat → ClassId) (a : Nat → Nat) (v : Nat → Nat → Int32) (n k : Nat) (hn : v 7 0 = nI n) (hn2 : n ≤ 120) (hk : k ≤ 1000) : Met l yX2_hasRoomFor wsX2_hasRoomFor ({ frames := 0, cells := 0, slots := 0, locals := 0 } : Room) (wl_pc D cy [stW cy a v] [.ref (a 0), .int (nI k)]) (vp_Si (fun r : Int32 => r = if (n + k ≤ 120) then 1 else 0)) 0 0 (fun _ => False) := by
  refine wl_ofP (cc := cX2_hasRoomFor) (maxL := 2) (ret := (some .boolean)) (by decide) rfl (Nat.le_of_ble_eq_true rfl) ?_
  intro p e s m below meth c ls hx hb hr hts hown hlocks hml hP hK hl
  have hl : lv_has ls 2 [(0, .ref (a 0)), (1, .int (nI k))] := hl
  have lkf39 := hts (.fieldLink RX2 39 "WireLamps$State" "pulseCount" "I") (by decide +kernel)
  have in_X2 : ∀ w ∈ u_ws RX2 TX2 13, w ∈ wsX2_hasRoomFor := by decide +kernel
  refine lv_aload_n hx hb dX2_hasRoomFor_0 rfl (lv_at hl 0 rfl) ?_
  refine wl_getf (C := RX2) (T := TX2) (N := 13) (ci := 2) (v := .int (v 7 0)) hx hb hts in_X2 hown hK hP 0 0 rfl rfl rfl 7 (by decide) lkf39 rfl rfl dX2_hasRoomFor_1 ?_
  refine wl_top (y := nI n) hn ?_
  refine lv_iload_n hx hb dX2_hasRoomFor_4 rfl (lv_at hl 1 rfl) ?_
  refine lv_iadd hx hb dX2_hasRoomFor_5 ?_
  refine wl_top (y := nI (n + k)) (nI_add n k) ?_
  refine lv_bipush (v := 120) hx hb dX2_hasRoomFor_6 (by decide) ?_
  refine wl_icmp_gt (tgt := 15) hx hb (n + k) 120 dX2_hasRoomFor_8 (by decide) (by omega) (by omega) (fun c1 => ?_) (fun c1 => ?_)
  · refine lv_iconst (v := 0) hx hb dX2_hasRoomFor_15 (by decide) ?_
    exact wl_rz (r := 0) (False) hx hb hr hlocks (by rfl) (by exact (if_neg (by first | assumption | omega | simp [c1] | simp_all)).symm) dX2_hasRoomFor_16
  · refine lv_iconst (v := 1) hx hb dX2_hasRoomFor_11 (by decide) ?_
    refine lv_goto (tgt := 16) hx hb dX2_hasRoomFor_12 (by decide) ?_
    exact wl_rz (r := 1) (True) hx hb hr hlocks (by rfl) (by exact (if_pos (by first | assumption | omega | simp [c1] | simp_all)).symm) dX2_hasRoomFor_16
set_option maxHeartbeats 4000000 in
set_option maxRecDepth 100000 in
theorem m_X2_handedOn (l : Launch) (D : va_G) (cy : Nat → ClassId) (a : Nat → Nat) (v : Nat → Nat → Int32) (x : Int32)  : Met l yX2_handedOn wsX2_handedOn ({ frames := 1, cells := 0, slots := 0, locals := 21 } : Room) (wl_pc D cy [stW cy a v] [.ref (a 0), .int x]) (vp_Si (fun r : Int32 => r = q_ho v x)) 0 0 (fun _ => False) := by
  refine wl_ofP (cc := cX2_handedOn) (maxL := 2) (ret := (some .int)) (by decide) rfl (Nat.le_of_ble_eq_true rfl) ?_
  intro p e s m below meth c ls hx hb hr hts hown hlocks hml hP hK hl
  have hl : lv_has ls 2 [(0, .ref (a 0)), (1, .int x)] := hl
  have lkf27 := hts (.fieldLink RX2 27 "WireLamps$State" "settings" "[I") (by decide +kernel)
  have in_X2 : ∀ w ∈ u_ws RX2 TX2 13, w ∈ wsX2_handedOn := by decide +kernel
  refine lv_aload_n hx hb dX2_handedOn_0 rfl (lv_at hl 0 rfl) ?_
  refine wl_getf (C := RX2) (T := TX2) (N := 13) (ci := 2) (v := .ref (a 6)) hx hb hts in_X2 hown hK hP 0 0 rfl rfl rfl 5 (by decide) lkf27 rfl rfl dX2_handedOn_1 ?_
  refine lv_iconst (v := 1) hx hb dX2_handedOn_4 (by decide) ?_
  refine wl_iald hx hb hK hP 0 6 rfl rfl 1 (by omega) (Nat.le_of_ble_eq_true rfl) dX2_handedOn_5 ?_
  refine lv_iconst (v := 1) hx hb dX2_handedOn_6 (by decide) ?_
  have K5 : ∀ (ls : Array Slot) (v4 : Int32), v4 = (if (v 5 1) = 1 then (if (¬ x < v 5 0) then 8 else 4) else x) → lv_has ls 2 [] → W p l e ({ frames := 1, cells := 0, slots := 0, locals := 21 } : Room) s m ([.ref (a 0), .int x] : List Value).toArray below meth c s.heap [] 0 0 (MQ below (vp_Si (fun r : Int32 => r = q_ho v x)) ([.ref (a 0), .int x] : List Value).toArray s 0 0 (fun _ => False)) (F0 m 22 ls [.int v4]) := by
    intro ls v4 ev4  hl
    exact wl_ri (r := v4) hx hb hr hlocks (by subst ev4; rfl) dX2_handedOn_22
  refine lv_icmp_ne (tgt := 21) hx hb dX2_handedOn_7 (by decide) (fun c1 => ?_) (fun c1 => ?_)
  · refine lv_iload_n hx hb dX2_handedOn_21 rfl (lv_at hl 1 rfl) ?_
    exact K5 _ x (by rw [if_neg c1]) (lv_sub hl [] rfl)
  · refine lv_aload_n hx hb dX2_handedOn_10 rfl (lv_at hl 0 rfl) ?_
    refine lv_iload_n hx hb dX2_handedOn_11 rfl (lv_at hl 1 rfl) ?_
    refine wl_pV (As := [.int x]) (rest := []) ⟨hx, hb, hml, hown, hts⟩ (m_X2_isReadAs1 l D cy a v x ) (cwV 1 hts gX2_handedOn_X2_isReadAs1 rfl rfl rfl (by decide +kernel) ⟨Nat.le_of_ble_eq_true rfl, Nat.le_of_ble_eq_true rfl⟩) hK hP [0] rfl rfl rfl rfl rfl rfl hl.1 rfl (Nat.le_of_ble_eq_true rfl) dX2_handedOn_12 ⟨Nat.le_of_ble_eq_true rfl, Nat.le_of_ble_eq_true rfl⟩ (fun r2 er2 => ?_)
    have er2 : r2 = if (¬ x < v 5 0) then 1 else 0 := er2
    refine wl_top (y := if (¬ x < v 5 0) then 1 else 0) er2 ?_
    refine wl_pS (As := [.int (if (¬ x < v 5 0) then 1 else 0)]) (rest := []) ⟨hx, hb, hml, hown, hts⟩ (m_X2_lengthFor l D cy (¬ x < v 5 0) ) (va_cwS 1 hts gX2_handedOn_X2_lengthFor rfl rfl rfl (by decide +kernel) ⟨Nat.le_of_ble_eq_true rfl, Nat.le_of_ble_eq_true rfl⟩) hK hP [] rfl rfl hl.1 rfl (Nat.le_of_ble_eq_true rfl) dX2_handedOn_15 ⟨Nat.le_of_ble_eq_true rfl, Nat.le_of_ble_eq_true rfl⟩ (fun r3 er3 => ?_)
    have er3 : r3 = if (¬ x < v 5 0) then 8 else 4 := er3
    subst er3
    refine lv_goto (tgt := 22) hx hb dX2_handedOn_18 (by decide) ?_
    exact K5 _ (if (¬ x < v 5 0) then 8 else 4) (by rw [if_pos c1]) (lv_sub hl [] rfl)
set_option maxHeartbeats 4000000 in
set_option maxRecDepth 100000 in
theorem m_X2_shown (l : Launch) (D : va_G) (cy : Nat → ClassId) (a : Nat → Nat) (v : Nat → Nat → Int32) (b w : Int32)  : Met l yX2_shown wsX2_shown ({ frames := 0, cells := 0, slots := 0, locals := 0 } : Room) (wl_pc D cy [stW cy a v] [.ref (a 0), .int b, .int w]) (vp_Si (fun r : Int32 => r = q_shn v b w)) 0 0 (fun _ => False) := by
  refine wl_ofP (cc := cX2_shown) (maxL := 3) (ret := (some .int)) (by decide) rfl (Nat.le_of_ble_eq_true rfl) ?_
  intro p e s m below meth c ls hx hb hr hts hown hlocks hml hP hK hl
  have hl : lv_has ls 3 [(0, .ref (a 0)), (1, .int b), (2, .int w)] := hl
  have lkf27 := hts (.fieldLink RX2 27 "WireLamps$State" "settings" "[I") (by decide +kernel)
  have in_X2 : ∀ w ∈ u_ws RX2 TX2 13, w ∈ wsX2_shown := by decide +kernel
  refine lv_iload_n hx hb dX2_shown_0 rfl (lv_at hl 2 rfl) ?_
  refine lv_if_le (tgt := 14) hx hb dX2_shown_1 (by decide) (fun c1 => ?_) (fun c1 => ?_)
  · refine lv_iload_n hx hb dX2_shown_14 rfl (lv_at hl 1 rfl) ?_
    exact wl_ri (r := b) hx hb hr hlocks (by unfold q_shn; rw [if_pos c1]) dX2_shown_15
  · refine lv_iload_n hx hb dX2_shown_4 rfl (lv_at hl 2 rfl) ?_
    refine lv_aload_n hx hb dX2_shown_5 rfl (lv_at hl 0 rfl) ?_
    refine wl_getf (C := RX2) (T := TX2) (N := 13) (ci := 2) (v := .ref (a 6)) hx hb hts in_X2 hown hK hP 0 0 rfl rfl rfl 5 (by decide) lkf27 rfl rfl dX2_shown_6 ?_
    refine lv_iconst (v := 2) hx hb dX2_shown_9 (by decide) ?_
    refine wl_iald hx hb hK hP 0 6 rfl rfl 2 (by omega) (Nat.le_of_ble_eq_true rfl) dX2_shown_10 ?_
    refine lv_icmp_gt (tgt := 16) hx hb dX2_shown_11 (by decide) (fun c2 => ?_) (fun c2 => ?_)
    · refine lv_iload_n hx hb dX2_shown_16 rfl (lv_at hl 1 rfl) ?_
      refine lv_aload_n hx hb dX2_shown_17 rfl (lv_at hl 0 rfl) ?_
      refine wl_getf (C := RX2) (T := TX2) (N := 13) (ci := 2) (v := .ref (a 6)) hx hb hts in_X2 hown hK hP 0 0 rfl rfl rfl 5 (by decide) lkf27 rfl rfl dX2_shown_18 ?_
      refine lv_iconst (v := 2) hx hb dX2_shown_21 (by decide) ?_
      refine wl_iald hx hb hK hP 0 6 rfl rfl 2 (by omega) (Nat.le_of_ble_eq_true rfl) dX2_shown_22 ?_
      refine lv_imul hx hb dX2_shown_23 ?_
      refine lv_iload_n hx hb dX2_shown_24 rfl (lv_at hl 2 rfl) ?_
      refine lv_idiv hx hb dX2_shown_25 (fun h => c1 (by rw [h]; decide)) ?_
      exact wl_ri (r := ((b * (v 5 2)) / w)) hx hb hr hlocks (by unfold q_shn; rw [if_neg c1, if_pos c2]) dX2_shown_26
    · refine lv_iload_n hx hb dX2_shown_14 rfl (lv_at hl 1 rfl) ?_
      exact wl_ri (r := b) hx hb hr hlocks (by unfold q_shn; rw [if_neg c1, if_neg c2]) dX2_shown_15
