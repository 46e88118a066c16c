/-! State: sums, places, words -/
set_option maxHeartbeats 4000000 in
set_option maxRecDepth 100000 in
theorem m_X2_addPulse (l : Launch) (D : va_G) (cy : Nat → ClassId) (a : Nat → Nat) (v : Nat → Nat → Int32) (x : Int32) (n : Nat) (sz : Nat) (hn : v 7 0 = nI n) (hn2 : n < 120) : Met l yX2_addPulse wsX2_addPulse ({ frames := 0, cells := 0, slots := 0, locals := 0 } : Room) (wl_ic D cy (fun _ => True) [stW cy a v] sz [.ref (a 0), .int x]) (va_Qv (fun (bs : List va_W) => bs = [stW cy a (su (su v 6 n x) 7 0 (nI (n + 1)))]) (wl_ib D [stW cy a v] sz) (va_A ([stW cy a v] : List va_W).flatten sz)) 0 0 (va_A ([stW cy a v] : List va_W).flatten sz) := by
  refine wl_ofI (cc := cX2_addPulse) (maxL := 2) (ret := none) (by decide) rfl (Nat.le_of_ble_eq_true rfl) ?_
  intro p e s m below meth c ls A hx hb hr hts hown hlocks hml hnm hsz hAe hP hK hD hX hA hS hl
  have hl : lv_has ls 2 [(0, .ref (a 0)), (1, .int x)] := hl
  have lkf30 := hts (.fieldLink RX2 30 "WireLamps$State" "pulses" "[I") (by decide +kernel)
  have lkf39 := hts (.fieldLink RX2 39 "WireLamps$State" "pulseCount" "I") (by decide +kernel)
  have in_X2 : ∀ w ∈ u_ws RX2 TX2 13, w ∈ wsX2_addPulse := by decide +kernel
  refine lv_aload_n hx hb dX2_addPulse_0 rfl (lv_at hl 0 rfl) ?_
  refine wl_getf (C := RX2) (T := TX2) (N := 13) (ci := 2) (v := .int (v 7 0)) hx hb hts in_X2 hown hK hP 0 0 rfl rfl rfl 7 (by decide) lkf39 rfl rfl dX2_addPulse_1 ?_
  refine wl_top (y := nI n) hn ?_
  refine wl_if_lt (tgt := 36) hx hb n dX2_addPulse_4 (by decide) (by omega) ?_
  refine lv_aload_n hx hb dX2_addPulse_7 rfl (lv_at hl 0 rfl) ?_
  refine wl_getf (C := RX2) (T := TX2) (N := 13) (ci := 2) (v := .int (v 7 0)) hx hb hts in_X2 hown hK hP 0 0 rfl rfl rfl 7 (by decide) lkf39 rfl rfl dX2_addPulse_8 ?_
  refine wl_top (y := nI n) hn ?_
  refine lv_bipush (v := 120) hx hb dX2_addPulse_11 (by decide) ?_
  refine wl_icmp_ge (tgt := 36) hx hb n 120 dX2_addPulse_13 (by decide) (by omega) (by omega) (fun c2 => absurd c2 (by omega)) (fun c2 => ?_)
  refine lv_aload_n hx hb dX2_addPulse_16 rfl (lv_at hl 0 rfl) ?_
  refine wl_getf (C := RX2) (T := TX2) (N := 13) (ci := 2) (v := .ref (a 7)) hx hb hts in_X2 hown hK hP 0 0 rfl rfl rfl 6 (by decide) lkf30 rfl rfl dX2_addPulse_17 ?_
  refine lv_aload_n hx hb dX2_addPulse_20 rfl (lv_at hl 0 rfl) ?_
  refine wl_getf (C := RX2) (T := TX2) (N := 13) (ci := 2) (v := .int (v 7 0)) hx hb hts in_X2 hown hK hP 0 0 rfl rfl rfl 7 (by decide) lkf39 rfl rfl dX2_addPulse_21 ?_
  refine wl_top (y := nI n) hn ?_
  refine lv_iload_n hx hb dX2_addPulse_24 rfl (lv_at hl 1 rfl) ?_
  refine wl_iast hx hb hK hP hD hS 0 7 rfl rfl n (by omega) (Nat.le_of_ble_eq_true rfl) dX2_addPulse_25 (fun H locs hP hD hS => ?_)
  have hP : va_P D vwCl ([stW cy a (su v 6 n x)] : List va_W).flatten H := hP
  have hD : va_D A ([stW cy a (su v 6 n x)] : List va_W).flatten := hD
  refine lv_aload_n hx hb dX2_addPulse_26 rfl (lv_at hl 0 rfl) ?_
  refine lv_dup hx hb dX2_addPulse_27 rfl ?_
  refine wl_getf (C := RX2) (T := TX2) (N := 13) (ci := 2) (v := .int (v 7 0)) hx hb hts in_X2 hown hK hP 0 0 rfl rfl rfl 7 (by decide) lkf39 rfl rfl dX2_addPulse_28 ?_
  refine wl_top (y := nI n) hn ?_
  refine lv_iconst (v := 1) hx hb dX2_addPulse_31 (by decide) ?_
  refine lv_iadd hx hb dX2_addPulse_32 ?_
  refine wl_top (y := nI (n + 1)) (nI_add n 1) ?_
  refine wl_putf (C := RX2) (T := TX2) (N := 13) (ci := 2) (v := .int (nI (n + 1))) hx hb hts in_X2 tyX2 tyX2_ok nmX2 hown hK hP hD hS 0 0 rfl rfl rfl 7 (by decide) lkf39 rfl rfl rfl rfl (Nat.le_of_ble_eq_true rfl) dX2_addPulse_33 (fun H locs hP hD hS => ?_)
  have hP : va_P D vwCl ([stW cy a (su (su v 6 n x) 7 0 (nI (n + 1)))] : List va_W).flatten H := hP
  have hD : va_D A ([stW cy a (su (su v 6 n x) 7 0 (nI (n + 1)))] : List va_W).flatten := hD
  exact wl_Rv (bs := [stW cy a (su (su v 6 n x) 7 0 (nI (n + 1)))]) hx hb hr hlocks hAe hP hD hS (by rfl) dX2_addPulse_36
set_option maxHeartbeats 4000000 in
set_option maxRecDepth 100000 in
theorem m_X2_addWord (l : Launch) (D : va_G) (cy : Nat → ClassId) (a : Nat → Nat) (v : Nat → Nat → Int32) (x : Int32) (n : Nat) (sz : Nat) (hn : v 7 0 = nI n) (hn2 : n + 12 ≤ 120) : Met l yX2_addWord wsX2_addWord ({ frames := 1, cells := 0, slots := 0, locals := 21 } : Room) (wl_ic D cy (fun _ => True) [stW cy a v] sz [.ref (a 0), .int x]) (va_Qv (fun (bs : List va_W) => bs = [stW cy a (q_aw x n v 12)]) (wl_ib D [stW cy a v] sz) (va_A ([stW cy a v] : List va_W).flatten sz)) 0 0 (va_A ([stW cy a v] : List va_W).flatten sz) := by
  refine wl_ofI (cc := cX2_addWord) (maxL := 3) (ret := none) (by decide) rfl (Nat.le_of_ble_eq_true rfl) ?_
  intro p e s m below meth c ls A hx hb hr hts hown hlocks hml hnm hsz hAe hP hK hD hX hA hS hl
  have hl : lv_has ls 3 [(0, .ref (a 0)), (1, .int x)] := hl
  refine lv_bipush (v := 11) hx hb dX2_addWord_0 (by decide) ?_
  refine lv_istore_n (lv' := [(2, .int 11), (0, .ref (a 0)), (1, .int x)]) hx hb dX2_addWord_2 rfl hl (by decide) rfl (fun ls hl => ?_)
  suffices K1 : ∀ (n2 : Nat) (d : Nat), 12 - d < n2 → (d ≤ 12) → ∀ (ls : Array Slot) (H : Heap) (locs : List Loc), va_P D vwCl ([stW cy a (q_aw x n v d)] : List va_W).flatten H → va_D A ([stW cy a (q_aw x n v d)] : List va_W).flatten → va_S A s.heap H locs → lv_has ls 3 [(2, .int (11 - nI d)), (0, .ref (a 0)), (1, .int x)] → W p l e ({ frames := 1, cells := 0, slots := 0, locals := 21 } : Room) s m ([.ref (a 0), .int x] : List Value).toArray below meth c H locs 0 0 (MQ below (va_Qv (fun (bs : List va_W) => bs = [stW cy a (q_aw x n v 12)]) (wl_ib D [stW cy a v] sz) (va_A ([stW cy a v] : List va_W).flatten sz)) ([.ref (a 0), .int x] : List Value).toArray s 0 0 (va_A ([stW cy a v] : List va_W).flatten sz)) (F0 m 3 ls []) from K1 13 0 (by omega) (by omega) _ _ _ hP hD hS (lv_sub hl [0, 1, 2] rfl)
  intro n2
  induction n2 with
  | zero => intro d hm; exact absurd hm (Nat.not_lt_zero _)
  | succ n2 ih3 =>
    intro d hm hd ls H locs hP hD hS hl
    refine lv_iload_n hx hb dX2_addWord_3 rfl (lv_at hl 0 rfl) ?_
    refine lv_if_lt (tgt := 34) hx hb dX2_addWord_4 (by decide) (fun cx => ?_) (fun cx => ?_)
    · obtain rfl : d = 12 := q_11 d hd cx
      exact wl_Rv (bs := [stW cy a (q_aw x n v 12)]) hx hb hr hlocks hAe hP hD hS (by rfl) dX2_addWord_34
    · have hd12 : d < 12 := by rcases Nat.lt_or_ge d 12 with q | q; exact q; (obtain rfl : d = 12 := by omega); exact absurd (by decide) cx
      refine lv_aload_n hx hb dX2_addWord_7 rfl (lv_at hl 1 rfl) ?_
      refine lv_iload_n hx hb dX2_addWord_8 rfl (lv_at hl 2 rfl) ?_
      refine lv_iload_n hx hb dX2_addWord_9 rfl (lv_at hl 0 rfl) ?_
      refine lv_ishr hx hb dX2_addWord_10 ?_
      refine lv_iconst (v := 1) hx hb dX2_addWord_11 (by decide) ?_
      refine lv_iand hx hb dX2_addWord_12 ?_
      refine lv_iconst (v := 1) hx hb dX2_addWord_13 (by decide) ?_
      have K6 : ∀ (ls : Array Slot) (H : Heap) (locs : List Loc) (v5 : Int32), v5 = (if ((x >>> ((11 - nI d) &&& 31)) &&& 1) = 1 then 1 else 0) → va_P D vwCl ([stW cy a (q_aw x n v d)] : List va_W).flatten H → va_D A ([stW cy a (q_aw x n v d)] : List va_W).flatten → va_S A s.heap H locs → lv_has ls 3 [(2, .int (11 - nI d)), (0, .ref (a 0)), (1, .int x)] → W p l e ({ frames := 1, cells := 0, slots := 0, locals := 21 } : Room) s m ([.ref (a 0), .int x] : List Value).toArray below meth c H locs 0 0 (MQ below (va_Qv (fun (bs : List va_W) => bs = [stW cy a (q_aw x n v 12)]) (wl_ib D [stW cy a v] sz) (va_A ([stW cy a v] : List va_W).flatten sz)) ([.ref (a 0), .int x] : List Value).toArray s 0 0 (va_A ([stW cy a v] : List va_W).flatten sz)) (F0 m 22 ls [.int v5, .ref (a 0)]) := by
        intro ls H locs v5 ev5 hP hD hS hl
        refine wl_top (y := if ((x >>> ((11 - nI d) &&& 31)) &&& 1) = 1 then 1 else 0) (by subst ev5; exact by first | rfl | (split <;> rfl) | (repeat (first | split | rfl))) ?_
        refine wl_pS (As := [.int (if ((x >>> ((11 - nI d) &&& 31)) &&& 1) = 1 then 1 else 0)]) (rest := [.ref (a 0)]) ⟨hx, hb, hml, hown, hts⟩ (m_X2_lengthFor l D cy (((x >>> ((11 - nI d) &&& 31)) &&& 1) = 1) ) (va_cwS 1 hts gX2_addWord_X2_lengthFor rfl rfl rfl (by decide +kernel) ⟨Nat.le_of_ble_eq_true rfl, Nat.le_of_ble_eq_true rfl⟩) hK hP [] rfl rfl hl.1 rfl (Nat.le_of_ble_eq_true rfl) dX2_addWord_22 ⟨Nat.le_of_ble_eq_true rfl, Nat.le_of_ble_eq_true rfl⟩ (fun r7 er7 => ?_)
        have er7 : r7 = if (((x >>> ((11 - nI d) &&& 31)) &&& 1) = 1) then 8 else 4 := er7
        subst er7
        refine wl_iVv (As := [.int (if (((x >>> ((11 - nI d) &&& 31)) &&& 1) = 1) then 8 else 4)]) (rest := []) (bsC := [stW cy a (q_aw x n v d)]) (bsR := []) ⟨hx, hb, hml, hown, hts⟩ (m_X2_addPulse l D cy a (q_aw x n v d) (if (((x >>> ((11 - nI d) &&& 31)) &&& 1) = 1) then 8 else 4) (n + d) H.size (q_aw_cnt hn d) (by omega)) (cwV 1 hts gX2_addWord_X2_addPulse rfl rfl rfl (by decide +kernel) ⟨Nat.le_of_ble_eq_true rfl, Nat.le_of_ble_eq_true rfl⟩) wl_xT (fun _ _ _ => trivial) hK hP hD hS hA rfl rfl rfl rfl rfl hl.1 rfl (Nat.le_of_ble_eq_true rfl) dX2_addWord_25 ⟨Nat.le_of_ble_eq_true rfl, Nat.le_of_ble_eq_true rfl⟩ (fun bs8 H locs e9 _ _ hP hD hS => ?_)
        have e9 : bs8 = [stW cy a (su (su (q_aw x n v d) 6 (n + d) (if (((x >>> ((11 - nI d) &&& 31)) &&& 1) = 1) then 8 else 4)) 7 0 (nI ((n + d) + 1)))] := e9
        subst e9
        have hP : va_P D vwCl ([stW cy a (su (su (q_aw x n v d) 6 (n + d) (if (((x >>> ((11 - nI d) &&& 31)) &&& 1) = 1) then 8 else 4)) 7 0 (nI ((n + d) + 1)))] : List va_W).flatten H := hP
        have hD : va_D A ([stW cy a (su (su (q_aw x n v d) 6 (n + d) (if (((x >>> ((11 - nI d) &&& 31)) &&& 1) = 1) then 8 else 4)) 7 0 (nI ((n + d) + 1)))] : List va_W).flatten := hD
        refine lv_iinc (v := 11 - nI (d + 1)) (lv' := [(2, .int (11 - nI (d + 1))), (0, .ref (a 0)), (1, .int x)]) hx hb dX2_addWord_28 hl (k := 0) rfl (q_11s d) (by decide) rfl (fun ls hl => ?_)
        refine lv_goto (tgt := 3) hx hb dX2_addWord_31 (by decide) ?_
        subst ev5
        exact ih3 (d + 1) (by omega) (by omega) _ _ _ hP hD hS (lv_sub hl [0, 1, 2] rfl)
      refine lv_icmp_ne (tgt := 21) hx hb dX2_addWord_14 (by decide) (fun c4 => ?_) (fun c4 => ?_)
      · refine lv_iconst (v := 0) hx hb dX2_addWord_21 (by decide) ?_
        exact K6 _ _ _ 0 (by rw [if_neg c4]) hP hD hS (lv_sub hl [0, 1, 2] rfl)
      · refine lv_iconst (v := 1) hx hb dX2_addWord_17 (by decide) ?_
        refine lv_goto (tgt := 22) hx hb dX2_addWord_18 (by decide) ?_
        exact K6 _ _ _ 1 (by rw [if_pos c4]) hP hD hS (lv_sub hl [0, 1, 2] rfl)
set_option maxHeartbeats 4000000 in
set_option maxRecDepth 100000 in
theorem m_X2_currentWanted (l : Launch) (D : va_G) (cy : Nat → ClassId) (a : Nat → Nat) (v : Nat → Nat → Int32)  : Met l yX2_currentWanted wsX2_currentWanted ({ frames := 1, cells := 0, slots := 0, locals := 21 } : Room) (wl_pc D cy [stW cy a v] [.ref (a 0)]) (vp_Si (fun r : Int32 => r = q_cw v)) 0 0 (fun _ => False) := by
  refine wl_ofP (cc := cX2_currentWanted) (maxL := 4) (ret := (some .int)) (by decide) rfl (Nat.le_of_ble_eq_true rfl) ?_
  intro p e s m below meth c ls hx hb hr hts hown hlocks hml hP hK hl
  have hl : lv_has ls 4 [(0, .ref (a 0))] := hl
  have lkf21 := hts (.fieldLink RX2 21 "WireLamps$State" "shining" "[I") (by decide +kernel)
  have in_X2 : ∀ w ∈ u_ws RX2 TX2 13, w ∈ wsX2_currentWanted := by decide +kernel
  refine lv_iconst (v := 0) hx hb dX2_currentWanted_0 (by decide) ?_
  refine lv_istore_n (lv' := [(1, .int 0), (0, .ref (a 0))]) hx hb dX2_currentWanted_1 rfl hl (by decide) rfl (fun ls hl => ?_)
  refine lv_iconst (v := 0) hx hb dX2_currentWanted_2 (by decide) ?_
  refine lv_istore_n (lv' := [(2, .int 0), (1, .int 0), (0, .ref (a 0))]) hx hb dX2_currentWanted_3 rfl hl (by decide) rfl (fun ls hl => ?_)
  suffices K1 : ∀ (n2 : Nat) (i : Nat), 8 - i < n2 → (i ≤ 8) → ∀ (ls : Array Slot), lv_has ls 4 [(2, .int (nI i)), (1, .int (q_sum2 (fun y z => q_br (v 3 y) (nI z)) i)), (0, .ref (a 0))] → W p l e ({ frames := 1, cells := 0, slots := 0, locals := 21 } : Room) s m ([.ref (a 0)] : List Value).toArray below meth c s.heap [] 0 0 (MQ below (vp_Si (fun r : Int32 => r = q_cw v)) ([.ref (a 0)] : List Value).toArray s 0 0 (fun _ => False)) (F0 m 4 ls []) from K1 9 0 (by omega) (by omega) _  (lv_sub hl [0, 1, 2] rfl)
  intro n2
  induction n2 with
  | zero => intro i hm; exact absurd hm (Nat.not_lt_zero _)
  | succ n2 ih3 =>
    intro i hm hi ls  hl
    refine lv_iload_n hx hb dX2_currentWanted_4 rfl (lv_at hl 0 rfl) ?_
    refine lv_bipush (v := 8) hx hb dX2_currentWanted_5 (by decide) ?_
    refine wl_icmp_ge (tgt := 42) hx hb i 8 dX2_currentWanted_7 (by decide) (by omega) (by omega) (fun c4 => ?_) (fun c4 => ?_)
    · obtain rfl : i = 8 := by omega
      refine lv_iload_n hx hb dX2_currentWanted_42 rfl (lv_at hl 1 rfl) ?_
      exact wl_ri (r := (q_sum2 (fun y z => q_br (v 3 y) (nI z)) 8)) hx hb hr hlocks (by rfl) dX2_currentWanted_43
    · refine lv_iconst (v := 0) hx hb dX2_currentWanted_10 (by decide) ?_
      refine lv_istore_n (lv' := [(3, .int 0), (2, .int (nI i)), (1, .int (q_sum2 (fun y z => q_br (v 3 y) (nI z)) i)), (0, .ref (a 0))]) hx hb dX2_currentWanted_11 rfl hl (by decide) rfl (fun ls hl => ?_)
      suffices K5 : ∀ (n6 : Nat) (k : Nat), 3 - k < n6 → (k ≤ 3) → ∀ (ls : Array Slot), lv_has ls 4 [(3, .int (nI k)), (2, .int (nI i)), (1, .int (q_in (fun z => q_br (v 3 i) (nI z)) k (q_sum2 (fun y z => q_br (v 3 y) (nI z)) i))), (0, .ref (a 0))] → W p l e ({ frames := 1, cells := 0, slots := 0, locals := 21 } : Room) s m ([.ref (a 0)] : List Value).toArray below meth c s.heap [] 0 0 (MQ below (vp_Si (fun r : Int32 => r = q_cw v)) ([.ref (a 0)] : List Value).toArray s 0 0 (fun _ => False)) (F0 m 12 ls []) from K5 4 0 (by omega) (by omega) _  (lv_sub hl [0, 1, 2, 3] rfl)
      intro n6
      induction n6 with
      | zero => intro k hm; exact absurd hm (Nat.not_lt_zero _)
      | succ n6 ih7 =>
        intro k hm hk ls  hl
        refine lv_iload_n hx hb dX2_currentWanted_12 rfl (lv_at hl 0 rfl) ?_
        refine lv_iconst (v := 3) hx hb dX2_currentWanted_13 (by decide) ?_
        refine wl_icmp_ge (tgt := 36) hx hb k 3 dX2_currentWanted_14 (by decide) (by omega) (by omega) (fun c8 => ?_) (fun c8 => ?_)
        · obtain rfl : k = 3 := by omega
          refine lv_iinc (v := nI (i + 1)) (lv' := [(2, .int (nI (i + 1))), (3, .int (nI 3)), (1, .int (q_in (fun z => q_br (v 3 i) (nI z)) 3 (q_sum2 (fun y z => q_br (v 3 y) (nI z)) i))), (0, .ref (a 0))]) hx hb dX2_currentWanted_36 hl (k := 1) rfl (by rw [wl_inc]) (by decide) rfl (fun ls hl => ?_)
          refine lv_goto (tgt := 4) hx hb dX2_currentWanted_39 (by decide) ?_
          exact ih3 (i + 1) (by omega) (by omega) _  (lv_sub hl [0, 2, 3] rfl)
        · refine lv_iload_n hx hb dX2_currentWanted_17 rfl (lv_at hl 2 rfl) ?_
          refine lv_aload_n hx hb dX2_currentWanted_18 rfl (lv_at hl 3 rfl) ?_
          refine wl_getf (C := RX2) (T := TX2) (N := 13) (ci := 2) (v := .ref (a 4)) hx hb hts in_X2 hown hK hP 0 0 rfl rfl rfl 3 (by decide) lkf21 rfl rfl dX2_currentWanted_19 ?_
          refine lv_iload_n hx hb dX2_currentWanted_22 rfl (lv_at hl 1 rfl) ?_
          refine wl_iald hx hb hK hP 0 4 rfl rfl i (by omega) (Nat.le_of_ble_eq_true rfl) dX2_currentWanted_23 ?_
          refine lv_iload_n hx hb dX2_currentWanted_24 rfl (lv_at hl 0 rfl) ?_
          refine wl_pS (As := [.int (v 3 i), .int (nI k)]) (rest := [.int (q_in (fun z => q_br (v 3 i) (nI z)) k (q_sum2 (fun y z => q_br (v 3 y) (nI z)) i))]) ⟨hx, hb, hml, hown, hts⟩ (m_X2_brightnessOf l D cy (v 3 i) (nI k) ) (va_cwS 2 hts gX2_currentWanted_X2_brightnessOf rfl rfl rfl (by decide +kernel) ⟨Nat.le_of_ble_eq_true rfl, Nat.le_of_ble_eq_true rfl⟩) hK hP [] rfl rfl hl.1 rfl (Nat.le_of_ble_eq_true rfl) dX2_currentWanted_25 ⟨Nat.le_of_ble_eq_true rfl, Nat.le_of_ble_eq_true rfl⟩ (fun r9 er9 => ?_)
          have er9 : r9 = q_br (v 3 i) (nI k) := er9
          subst er9
          refine lv_iadd hx hb dX2_currentWanted_28 ?_
          refine lv_istore_n (lv' := [(1, .int ((q_in (fun z => q_br (v 3 i) (nI z)) k (q_sum2 (fun y z => q_br (v 3 y) (nI z)) i)) + (q_br (v 3 i) (nI k)))), (3, .int (nI k)), (2, .int (nI i)), (0, .ref (a 0))]) hx hb dX2_currentWanted_29 rfl hl (by decide) rfl (fun ls hl => ?_)
          refine lv_iinc (v := nI (k + 1)) (lv' := [(3, .int (nI (k + 1))), (1, .int ((q_in (fun z => q_br (v 3 i) (nI z)) k (q_sum2 (fun y z => q_br (v 3 y) (nI z)) i)) + (q_br (v 3 i) (nI k)))), (2, .int (nI i)), (0, .ref (a 0))]) hx hb dX2_currentWanted_30 hl (k := 1) rfl (by rw [wl_inc]) (by decide) rfl (fun ls hl => ?_)
          refine lv_goto (tgt := 12) hx hb dX2_currentWanted_33 (by decide) ?_
          exact ih7 (k + 1) (by omega) (by omega) _  (lv_sub hl [0, 2, 1, 3] rfl)
set_option maxHeartbeats 4000000 in
set_option maxRecDepth 100000 in
theorem m_X2_shownTogether (l : Launch) (D : va_G) (cy : Nat → ClassId) (a : Nat → Nat) (v : Nat → Nat → Int32)  : Met l yX2_shownTogether wsX2_shownTogether ({ frames := 2, cells := 0, slots := 0, locals := 44 } : Room) (wl_pc D cy [stW cy a v] [.ref (a 0)]) (vp_Si (fun r : Int32 => r = q_st v)) 0 0 (fun _ => False) := by
  refine wl_ofP (cc := cX2_shownTogether) (maxL := 5) (ret := (some .int)) (by decide) rfl (Nat.le_of_ble_eq_true rfl) ?_
  intro p e s m below meth c ls hx hb hr hts hown hlocks hml hP hK hl
  have hl : lv_has ls 5 [(0, .ref (a 0))] := hl
  have lkf21 := hts (.fieldLink RX2 21 "WireLamps$State" "shining" "[I") (by decide +kernel)
  have in_X2 : ∀ w ∈ u_ws RX2 TX2 13, w ∈ wsX2_shownTogether := by decide +kernel
  refine lv_aload_n hx hb dX2_shownTogether_0 rfl (lv_at hl 0 rfl) ?_
  refine wl_pV (As := []) (rest := []) ⟨hx, hb, hml, hown, hts⟩ (m_X2_currentWanted l D cy a v ) (cwV 0 hts gX2_shownTogether_X2_currentWanted rfl rfl rfl (by decide +kernel) ⟨Nat.le_of_ble_eq_true rfl, Nat.le_of_ble_eq_true rfl⟩) hK hP [0] rfl rfl rfl rfl rfl rfl hl.1 rfl (Nat.le_of_ble_eq_true rfl) dX2_shownTogether_1 ⟨Nat.le_of_ble_eq_true rfl, Nat.le_of_ble_eq_true rfl⟩ (fun r1 er1 => ?_)
  have er1 : r1 = q_cw v := er1
  subst er1
  refine lv_istore_n (lv' := [(1, .int (q_cw v)), (0, .ref (a 0))]) hx hb dX2_shownTogether_4 rfl hl (by decide) rfl (fun ls hl => ?_)
  refine lv_iconst (v := 0) hx hb dX2_shownTogether_5 (by decide) ?_
  refine lv_istore_n (lv' := [(2, .int 0), (1, .int (q_cw v)), (0, .ref (a 0))]) hx hb dX2_shownTogether_6 rfl hl (by decide) rfl (fun ls hl => ?_)
  refine lv_iconst (v := 0) hx hb dX2_shownTogether_7 (by decide) ?_
  refine lv_istore_n (lv' := [(3, .int 0), (2, .int 0), (1, .int (q_cw v)), (0, .ref (a 0))]) hx hb dX2_shownTogether_8 rfl hl (by decide) rfl (fun ls hl => ?_)
  suffices K2 : ∀ (n3 : Nat) (i : Nat), 8 - i < n3 → (i ≤ 8) → ∀ (ls : Array Slot), lv_has ls 5 [(3, .int (nI i)), (2, .int (q_sum2 (fun y z => q_shn v (q_br (v 3 y) (nI z)) (q_cw v)) i)), (1, .int (q_cw v)), (0, .ref (a 0))] → W p l e ({ frames := 2, cells := 0, slots := 0, locals := 44 } : Room) s m ([.ref (a 0)] : List Value).toArray below meth c s.heap [] 0 0 (MQ below (vp_Si (fun r : Int32 => r = q_st v)) ([.ref (a 0)] : List Value).toArray s 0 0 (fun _ => False)) (F0 m 9 ls []) from K2 9 0 (by omega) (by omega) _  (lv_sub hl [0, 1, 2, 3] rfl)
  intro n3
  induction n3 with
  | zero => intro i hm; exact absurd hm (Nat.not_lt_zero _)
  | succ n3 ih4 =>
    intro i hm hi ls  hl
    refine lv_iload_n hx hb dX2_shownTogether_9 rfl (lv_at hl 0 rfl) ?_
    refine lv_bipush (v := 8) hx hb dX2_shownTogether_10 (by decide) ?_
    refine wl_icmp_ge (tgt := 55) hx hb i 8 dX2_shownTogether_12 (by decide) (by omega) (by omega) (fun c5 => ?_) (fun c5 => ?_)
    · obtain rfl : i = 8 := by omega
      refine lv_iload_n hx hb dX2_shownTogether_55 rfl (lv_at hl 1 rfl) ?_
      exact wl_ri (r := (q_sum2 (fun y z => q_shn v (q_br (v 3 y) (nI z)) (q_cw v)) 8)) hx hb hr hlocks (by rfl) dX2_shownTogether_56
    · refine lv_iconst (v := 0) hx hb dX2_shownTogether_15 (by decide) ?_
      refine lv_istore (lv' := [(4, .int 0), (3, .int (nI i)), (2, .int (q_sum2 (fun y z => q_shn v (q_br (v 3 y) (nI z)) (q_cw v)) i)), (1, .int (q_cw v)), (0, .ref (a 0))]) hx hb dX2_shownTogether_16 hl (by decide) rfl (fun ls hl => ?_)
      suffices K6 : ∀ (n7 : Nat) (k : Nat), 3 - k < n7 → (k ≤ 3) → ∀ (ls : Array Slot), lv_has ls 5 [(4, .int (nI k)), (3, .int (nI i)), (2, .int (q_in ((fun y z => q_shn v (q_br (v 3 y) (nI z)) (q_cw v)) i) k (q_sum2 (fun y z => q_shn v (q_br (v 3 y) (nI z)) (q_cw v)) i))), (1, .int (q_cw v)), (0, .ref (a 0))] → W p l e ({ frames := 2, cells := 0, slots := 0, locals := 44 } : Room) s m ([.ref (a 0)] : List Value).toArray below meth c s.heap [] 0 0 (MQ below (vp_Si (fun r : Int32 => r = q_st v)) ([.ref (a 0)] : List Value).toArray s 0 0 (fun _ => False)) (F0 m 18 ls []) from K6 4 0 (by omega) (by omega) _  (lv_sub hl [0, 1, 2, 3, 4] rfl)
      intro n7
      induction n7 with
      | zero => intro k hm; exact absurd hm (Nat.not_lt_zero _)
      | succ n7 ih8 =>
        intro k hm hk ls  hl
        refine lv_iload hx hb dX2_shownTogether_18 (lv_at hl 0 rfl) ?_
        refine lv_iconst (v := 3) hx hb dX2_shownTogether_20 (by decide) ?_
        refine wl_icmp_ge (tgt := 49) hx hb k 3 dX2_shownTogether_21 (by decide) (by omega) (by omega) (fun c9 => ?_) (fun c9 => ?_)
        · obtain rfl : k = 3 := by omega
          refine lv_iinc (v := nI (i + 1)) (lv' := [(3, .int (nI (i + 1))), (4, .int (nI 3)), (2, .int (q_in ((fun y z => q_shn v (q_br (v 3 y) (nI z)) (q_cw v)) i) 3 (q_sum2 (fun y z => q_shn v (q_br (v 3 y) (nI z)) (q_cw v)) i))), (1, .int (q_cw v)), (0, .ref (a 0))]) hx hb dX2_shownTogether_49 hl (k := 1) rfl (by rw [wl_inc]) (by decide) rfl (fun ls hl => ?_)
          refine lv_goto (tgt := 9) hx hb dX2_shownTogether_52 (by decide) ?_
          exact ih4 (i + 1) (by omega) (by omega) _  (lv_sub hl [0, 2, 3, 4] rfl)
        · refine lv_iload_n hx hb dX2_shownTogether_24 rfl (lv_at hl 2 rfl) ?_
          refine lv_aload_n hx hb dX2_shownTogether_25 rfl (lv_at hl 4 rfl) ?_
          refine lv_aload_n hx hb dX2_shownTogether_26 rfl (lv_at hl 4 rfl) ?_
          refine wl_getf (C := RX2) (T := TX2) (N := 13) (ci := 2) (v := .ref (a 4)) hx hb hts in_X2 hown hK hP 0 0 rfl rfl rfl 3 (by decide) lkf21 rfl rfl dX2_shownTogether_27 ?_
          refine lv_iload_n hx hb dX2_shownTogether_30 rfl (lv_at hl 1 rfl) ?_
          refine wl_iald hx hb hK hP 0 4 rfl rfl i (by omega) (Nat.le_of_ble_eq_true rfl) dX2_shownTogether_31 ?_
          refine lv_iload hx hb dX2_shownTogether_32 (lv_at hl 0 rfl) ?_
          refine wl_pS (As := [.int (v 3 i), .int (nI k)]) (rest := [.ref (a 0), .int (q_in ((fun y z => q_shn v (q_br (v 3 y) (nI z)) (q_cw v)) i) k (q_sum2 (fun y z => q_shn v (q_br (v 3 y) (nI z)) (q_cw v)) i))]) ⟨hx, hb, hml, hown, hts⟩ (m_X2_brightnessOf l D cy (v 3 i) (nI k) ) (va_cwS 2 hts gX2_shownTogether_X2_brightnessOf rfl rfl rfl (by decide +kernel) ⟨Nat.le_of_ble_eq_true rfl, Nat.le_of_ble_eq_true rfl⟩) hK hP [] rfl rfl hl.1 rfl (Nat.le_of_ble_eq_true rfl) dX2_shownTogether_34 ⟨Nat.le_of_ble_eq_true rfl, Nat.le_of_ble_eq_true rfl⟩ (fun r10 er10 => ?_)
          have er10 : r10 = q_br (v 3 i) (nI k) := er10
          subst er10
          refine lv_iload_n hx hb dX2_shownTogether_37 rfl (lv_at hl 3 rfl) ?_
          refine wl_pV (As := [.int (q_br (v 3 i) (nI k)), .int (q_cw v)]) (rest := [.int (q_in ((fun y z => q_shn v (q_br (v 3 y) (nI z)) (q_cw v)) i) k (q_sum2 (fun y z => q_shn v (q_br (v 3 y) (nI z)) (q_cw v)) i))]) ⟨hx, hb, hml, hown, hts⟩ (m_X2_shown l D cy a v (q_br (v 3 i) (nI k)) (q_cw v) ) (cwV 2 hts gX2_shownTogether_X2_shown rfl rfl rfl (by decide +kernel) ⟨Nat.le_of_ble_eq_true rfl, Nat.le_of_ble_eq_true rfl⟩) hK hP [0] rfl rfl rfl rfl rfl rfl hl.1 rfl (Nat.le_of_ble_eq_true rfl) dX2_shownTogether_38 ⟨Nat.le_of_ble_eq_true rfl, Nat.le_of_ble_eq_true rfl⟩ (fun r11 er11 => ?_)
          have er11 : r11 = q_shn v (q_br (v 3 i) (nI k)) (q_cw v) := er11
          subst er11
          refine lv_iadd hx hb dX2_shownTogether_41 ?_
          refine lv_istore_n (lv' := [(2, .int ((q_in ((fun y z => q_shn v (q_br (v 3 y) (nI z)) (q_cw v)) i) k (q_sum2 (fun y z => q_shn v (q_br (v 3 y) (nI z)) (q_cw v)) i)) + (q_shn v (q_br (v 3 i) (nI k)) (q_cw v)))), (4, .int (nI k)), (3, .int (nI i)), (1, .int (q_cw v)), (0, .ref (a 0))]) hx hb dX2_shownTogether_42 rfl hl (by decide) rfl (fun ls hl => ?_)
          refine lv_iinc (v := nI (k + 1)) (lv' := [(4, .int (nI (k + 1))), (2, .int ((q_in ((fun y z => q_shn v (q_br (v 3 y) (nI z)) (q_cw v)) i) k (q_sum2 (fun y z => q_shn v (q_br (v 3 y) (nI z)) (q_cw v)) i)) + (q_shn v (q_br (v 3 i) (nI k)) (q_cw v)))), (3, .int (nI i)), (1, .int (q_cw v)), (0, .ref (a 0))]) hx hb dX2_shownTogether_43 hl (k := 1) rfl (by rw [wl_inc]) (by decide) rfl (fun ls hl => ?_)
          refine lv_goto (tgt := 18) hx hb dX2_shownTogether_46 (by decide) ?_
          exact ih8 (k + 1) (by omega) (by omega) _  (lv_sub hl [0, 2, 1, 3, 4] rfl)
set_option maxHeartbeats 4000000 in
set_option maxRecDepth 100000 in
theorem m_X2_lampsThatShine (l : Launch) (D : va_G) (cy : Nat → ClassId) (a : Nat → Nat) (v : Nat → Nat → Int32)  : Met l yX2_lampsThatShine wsX2_lampsThatShine ({ frames := 0, cells := 0, slots := 0, locals := 0 } : Room) (wl_pc D cy [stW cy a v] [.ref (a 0)]) (vp_Si (fun r : Int32 => r = q_cnt (v 3) 8)) 0 0 (fun _ => False) := by
  refine wl_ofP (cc := cX2_lampsThatShine) (maxL := 3) (ret := (some .int)) (by decide) rfl (Nat.le_of_ble_eq_true rfl) ?_
  intro p e s m below meth c ls hx hb hr hts hown hlocks hml hP hK hl
  have hl : lv_has ls 3 [(0, .ref (a 0))] := hl
  have lkf21 := hts (.fieldLink RX2 21 "WireLamps$State" "shining" "[I") (by decide +kernel)
  have in_X2 : ∀ w ∈ u_ws RX2 TX2 13, w ∈ wsX2_lampsThatShine := by decide +kernel
  refine lv_iconst (v := 0) hx hb dX2_lampsThatShine_0 (by decide) ?_
  refine lv_istore_n (lv' := [(1, .int 0), (0, .ref (a 0))]) hx hb dX2_lampsThatShine_1 rfl hl (by decide) rfl (fun ls hl => ?_)
  refine lv_iconst (v := 0) hx hb dX2_lampsThatShine_2 (by decide) ?_
  refine lv_istore_n (lv' := [(2, .int 0), (1, .int 0), (0, .ref (a 0))]) hx hb dX2_lampsThatShine_3 rfl hl (by decide) rfl (fun ls hl => ?_)
  suffices K1 : ∀ (n2 : Nat) (i : Nat), 8 - i < n2 → (i ≤ 8) → ∀ (ls : Array Slot), lv_has ls 3 [(2, .int (nI i)), (1, .int (q_cnt (v 3) i)), (0, .ref (a 0))] → W p l e ({ frames := 0, cells := 0, slots := 0, locals := 0 } : Room) s m ([.ref (a 0)] : List Value).toArray below meth c s.heap [] 0 0 (MQ below (vp_Si (fun r : Int32 => r = q_cnt (v 3) 8)) ([.ref (a 0)] : List Value).toArray s 0 0 (fun _ => False)) (F0 m 4 ls []) from K1 9 0 (by omega) (by omega) _  (lv_sub hl [0, 1, 2] rfl)
  intro n2
  induction n2 with
  | zero => intro i hm; exact absurd hm (Nat.not_lt_zero _)
  | succ n2 ih3 =>
    intro i hm hi ls  hl
    refine lv_iload_n hx hb dX2_lampsThatShine_4 rfl (lv_at hl 0 rfl) ?_
    refine lv_bipush (v := 8) hx hb dX2_lampsThatShine_5 (by decide) ?_
    refine wl_icmp_ge (tgt := 28) hx hb i 8 dX2_lampsThatShine_7 (by decide) (by omega) (by omega) (fun c4 => ?_) (fun c4 => ?_)
    · obtain rfl : i = 8 := by omega
      refine lv_iload_n hx hb dX2_lampsThatShine_28 rfl (lv_at hl 1 rfl) ?_
      exact wl_ri (r := (q_cnt (v 3) 8)) hx hb hr hlocks (by rfl) dX2_lampsThatShine_29
    · refine lv_aload_n hx hb dX2_lampsThatShine_10 rfl (lv_at hl 2 rfl) ?_
      refine wl_getf (C := RX2) (T := TX2) (N := 13) (ci := 2) (v := .ref (a 4)) hx hb hts in_X2 hown hK hP 0 0 rfl rfl rfl 3 (by decide) lkf21 rfl rfl dX2_lampsThatShine_11 ?_
      refine lv_iload_n hx hb dX2_lampsThatShine_14 rfl (lv_at hl 0 rfl) ?_
      refine wl_iald hx hb hK hP 0 4 rfl rfl i (by omega) (Nat.le_of_ble_eq_true rfl) dX2_lampsThatShine_15 ?_
      have K7 : ∀ (ls : Array Slot) (v6 : Int32), v6 = (if (v 3 i) = 0 then (q_cnt (v 3) i) else ((q_cnt (v 3) i) + 1)) → lv_has ls 3 [(2, .int (nI i)), (1, .int v6), (0, .ref (a 0))] → W p l e ({ frames := 0, cells := 0, slots := 0, locals := 0 } : Room) s m ([.ref (a 0)] : List Value).toArray below meth c s.heap [] 0 0 (MQ below (vp_Si (fun r : Int32 => r = q_cnt (v 3) 8)) ([.ref (a 0)] : List Value).toArray s 0 0 (fun _ => False)) (F0 m 22 ls []) := by
        intro ls v6 ev6  hl
        refine lv_iinc (v := nI (i + 1)) (lv' := [(2, .int (nI (i + 1))), (1, .int v6), (0, .ref (a 0))]) hx hb dX2_lampsThatShine_22 hl (k := 0) rfl (by rw [wl_inc]) (by decide) rfl (fun ls hl => ?_)
        refine lv_goto (tgt := 4) hx hb dX2_lampsThatShine_25 (by decide) ?_
        subst ev6
        exact ih3 (i + 1) (by omega) (by omega) _  (lv_sub hl [0, 1, 2] rfl)
      refine lv_if_eq (tgt := 22) hx hb dX2_lampsThatShine_16 (by decide) (fun c5 => ?_) (fun c5 => ?_)
      · exact K7 _ (q_cnt (v 3) i) (by rw [if_pos c5]) (lv_sub hl [0, 1, 2] rfl)
      · refine lv_iinc (v := (q_cnt (v 3) i) + 1) (lv' := [(1, .int ((q_cnt (v 3) i) + 1)), (2, .int (nI i)), (0, .ref (a 0))]) hx hb dX2_lampsThatShine_19 hl (k := 1) rfl rfl (by decide) rfl (fun ls hl => ?_)
        exact K7 _ ((q_cnt (v 3) i) + 1) (by rw [if_neg c5]) (lv_sub hl [1, 0, 2] rfl)
set_option maxHeartbeats 4000000 in
set_option maxRecDepth 100000 in
theorem m_X2_wordsUpTo (l : Launch) (D : va_G) (cy : Nat → ClassId) (a : Nat → Nat) (v : Nat → Nat → Int32) (j : Nat) (hj : j < 8) : Met l yX2_wordsUpTo wsX2_wordsUpTo ({ frames := 1, cells := 0, slots := 0, locals := 21 } : Room) (wl_pc D cy [stW cy a v] [.ref (a 0), .int (nI j)]) (vp_Si (fun r : Int32 => r = q_wu v j)) 0 0 (fun _ => False) := by
  refine wl_ofP (cc := cX2_wordsUpTo) (maxL := 4) (ret := (some .int)) (by decide) rfl (Nat.le_of_ble_eq_true rfl) ?_
  intro p e s m below meth c ls hx hb hr hts hown hlocks hml hP hK hl
  have hl : lv_has ls 4 [(0, .ref (a 0)), (1, .int (nI j))] := hl
  have lkf9 := hts (.fieldLink RX2 9 "WireLamps$State" "modes" "[I") (by decide +kernel)
  have in_X2 : ∀ w ∈ u_ws RX2 TX2 13, w ∈ wsX2_wordsUpTo := by decide +kernel
  refine lv_aload_n hx hb dX2_wordsUpTo_0 rfl (lv_at hl 0 rfl) ?_
  refine lv_iload_n hx hb dX2_wordsUpTo_1 rfl (lv_at hl 1 rfl) ?_
  refine wl_pV (As := [.int (nI j)]) (rest := []) ⟨hx, hb, hml, hown, hts⟩ (m_X2_takesWords l D cy a v j (by omega)) (cwV 1 hts gX2_wordsUpTo_X2_takesWords rfl rfl rfl (by decide +kernel) ⟨Nat.le_of_ble_eq_true rfl, Nat.le_of_ble_eq_true rfl⟩) hK hP [0] rfl rfl rfl rfl rfl rfl hl.1 rfl (Nat.le_of_ble_eq_true rfl) dX2_wordsUpTo_2 ⟨Nat.le_of_ble_eq_true rfl, Nat.le_of_ble_eq_true rfl⟩ (fun r1 er1 => ?_)
  have er1 : r1 = if (v 0 j = 0 ∨ v 0 j = 1) then 1 else 0 := er1
  refine wl_b_ne (tgt := 10) hx hb (v 0 j = 0 ∨ v 0 j = 1) er1 dX2_wordsUpTo_5 (by decide) (fun htk => ?_) (fun htk => ?_)
  · refine lv_iconst (v := 1) hx hb dX2_wordsUpTo_10 (by decide) ?_
    refine lv_istore_n (lv' := [(2, .int 1), (0, .ref (a 0)), (1, .int (nI j))]) hx hb dX2_wordsUpTo_11 rfl hl (by decide) rfl (fun ls hl => ?_)
    refine lv_iconst (v := 0) hx hb dX2_wordsUpTo_12 (by decide) ?_
    refine lv_istore_n (lv' := [(3, .int 0), (2, .int 1), (0, .ref (a 0)), (1, .int (nI j))]) hx hb dX2_wordsUpTo_13 rfl hl (by decide) rfl (fun ls hl => ?_)
    suffices K2 : ∀ (n3 : Nat) (i : Nat) (t : Nat), j - i < n3 → (i ≤ j) → (q_cut v i = false) → (t = q_ta v i + 1) → ∀ (ls : Array Slot), lv_has ls 4 [(3, .int (nI i)), (2, .int (nI t)), (0, .ref (a 0)), (1, .int (nI j))] → W p l e ({ frames := 1, cells := 0, slots := 0, locals := 21 } : Room) s m ([.ref (a 0), .int (nI j)] : List Value).toArray below meth c s.heap [] 0 0 (MQ below (vp_Si (fun r : Int32 => r = q_wu v j)) ([.ref (a 0), .int (nI j)] : List Value).toArray s 0 0 (fun _ => False)) (F0 m 14 ls []) from K2 (j + 1) 0 1 (by omega) (by omega) rfl rfl _  (lv_sub hl [0, 1, 2, 3] rfl)
    intro n3
    induction n3 with
    | zero => intro i t hm; exact absurd hm (Nat.not_lt_zero _)
    | succ n3 ih4 =>
      intro i t hm hi hc ht ls  hl
      refine lv_iload_n hx hb dX2_wordsUpTo_14 rfl (lv_at hl 0 rfl) ?_
      refine lv_iload_n hx hb dX2_wordsUpTo_15 rfl (lv_at hl 3 rfl) ?_
      refine wl_icmp_ge (tgt := 48) hx hb i j dX2_wordsUpTo_16 (by decide) (by omega) (by omega) (fun c5 => ?_) (fun c5 => ?_)
      · refine lv_iload_n hx hb dX2_wordsUpTo_48 rfl (lv_at hl 1 rfl) ?_
        exact wl_ri (r := (nI t)) hx hb hr hlocks (by obtain rfl : i = j := (by omega); rw [ht]; exact (if_pos ⟨htk, hc⟩).symm) dX2_wordsUpTo_49
      · refine lv_aload_n hx hb dX2_wordsUpTo_19 rfl (lv_at hl 2 rfl) ?_
        refine wl_getf (C := RX2) (T := TX2) (N := 13) (ci := 2) (v := .ref (a 1)) hx hb hts in_X2 hown hK hP 0 0 rfl rfl rfl 0 (by decide) lkf9 rfl rfl dX2_wordsUpTo_20 ?_
        refine lv_iload_n hx hb dX2_wordsUpTo_23 rfl (lv_at hl 0 rfl) ?_
        refine wl_iald hx hb hK hP 0 1 rfl rfl i (by omega) (Nat.le_of_ble_eq_true rfl) dX2_wordsUpTo_24 ?_
        refine lv_iconst (v := 2) hx hb dX2_wordsUpTo_25 (by decide) ?_
        refine lv_icmp_ne (tgt := 31) hx hb dX2_wordsUpTo_26 (by decide) (fun hbr => ?_) (fun hbr => ?_)
        · refine lv_aload_n hx hb dX2_wordsUpTo_31 rfl (lv_at hl 2 rfl) ?_
          refine lv_iload_n hx hb dX2_wordsUpTo_32 rfl (lv_at hl 0 rfl) ?_
          refine wl_pV (As := [.int (nI i)]) (rest := []) ⟨hx, hb, hml, hown, hts⟩ (m_X2_takesWords l D cy a v i (by omega)) (cwV 1 hts gX2_wordsUpTo_X2_takesWords rfl rfl rfl (by decide +kernel) ⟨Nat.le_of_ble_eq_true rfl, Nat.le_of_ble_eq_true rfl⟩) hK hP [0] rfl rfl rfl rfl rfl rfl hl.1 rfl (Nat.le_of_ble_eq_true rfl) dX2_wordsUpTo_33 ⟨Nat.le_of_ble_eq_true rfl, Nat.le_of_ble_eq_true rfl⟩ (fun r6 er6 => ?_)
          have er6 : r6 = if (v 0 i = 0 ∨ v 0 i = 1) then 1 else 0 := er6
          have K9 : ∀ (ls : Array Slot) (v8 : Nat), v8 = (if (v 0 i = 0 ∨ v 0 i = 1) then (t + 1) else t) → lv_has ls 4 [(3, .int (nI i)), (2, .int (nI v8)), (0, .ref (a 0)), (1, .int (nI j))] → W p l e ({ frames := 1, cells := 0, slots := 0, locals := 21 } : Room) s m ([.ref (a 0), .int (nI j)] : List Value).toArray below meth c s.heap [] 0 0 (MQ below (vp_Si (fun r : Int32 => r = q_wu v j)) ([.ref (a 0), .int (nI j)] : List Value).toArray s 0 0 (fun _ => False)) (F0 m 42 ls []) := by
            intro ls v8 ev8  hl
            refine lv_iinc (v := nI (i + 1)) (lv' := [(3, .int (nI (i + 1))), (2, .int (nI v8)), (0, .ref (a 0)), (1, .int (nI j))]) hx hb dX2_wordsUpTo_42 hl (k := 0) rfl (by rw [wl_inc]) (by decide) rfl (fun ls hl => ?_)
            refine lv_goto (tgt := 14) hx hb dX2_wordsUpTo_45 (by decide) ?_
            subst ev8
            exact ih4 (i + 1) (if (v 0 i = 0 ∨ v 0 i = 1) then (t + 1) else t) (by omega) (by omega) (by simp only [q_cut, hc, Bool.false_or, decide_eq_false_iff_not]; exact hbr) (by rw [ht]; simp only [q_ta]; split <;> omega) _  (lv_sub hl [0, 1, 2, 3] rfl)
          refine wl_b_eq (tgt := 42) hx hb (v 0 i = 0 ∨ v 0 i = 1) er6 dX2_wordsUpTo_36 (by decide) (fun c7 => ?_) (fun c7 => ?_)
          · exact K9 _ t (by rw [if_neg c7]) (lv_sub hl [0, 1, 2, 3] rfl)
          · refine lv_iinc (v := nI (t + 1)) (lv' := [(2, .int (nI (t + 1))), (3, .int (nI i)), (0, .ref (a 0)), (1, .int (nI j))]) hx hb dX2_wordsUpTo_39 hl (k := 1) rfl (by rw [wl_inc]) (by decide) rfl (fun ls hl => ?_)
            exact K9 _ (t + 1) (by rw [if_pos c7]) (lv_sub hl [1, 0, 2, 3] rfl)
        · refine lv_iconst (v := (-1)) hx hb dX2_wordsUpTo_29 (by decide) ?_
          exact wl_ri (r := (-1)) hx hb hr hlocks (by exact (if_neg (fun h => by have h2 := q_cut_of hbr (j := j) (by omega); rw [h2] at h; exact absurd h.2 (by decide))).symm) dX2_wordsUpTo_30
  · refine lv_iconst (v := (-1)) hx hb dX2_wordsUpTo_8 (by decide) ?_
    exact wl_ri (r := (-1)) hx hb hr hlocks (by exact (if_neg (fun h => htk h.1)).symm) dX2_wordsUpTo_9
set_option maxHeartbeats 4000000 in
set_option maxRecDepth 100000 in
theorem m_X2_lengthAt (l : Launch) (D : va_G) (cy : Nat → ClassId) (a : Nat → Nat) (v : Nat → Nat → Int32) (j : Nat) (x : Int32) (hj : j < 8) : Met l yX2_lengthAt wsX2_lengthAt ({ frames := 2, cells := 0, slots := 0, locals := 42 } : Room) (wl_pc D cy [stW cy a v] [.ref (a 0), .int (nI j), .int x]) (vp_Si (fun r : Int32 => r = q_ar v j x)) 0 0 (fun _ => False) := by
  refine wl_ofP (cc := cX2_lengthAt) (maxL := 5) (ret := (some .int)) (by decide) rfl (Nat.le_of_ble_eq_true rfl) ?_
  intro p e s m below meth c ls hx hb hr hts hown hlocks hml hP hK hl
  have hl : lv_has ls 5 [(0, .ref (a 0)), (1, .int (nI j)), (2, .int x)] := hl
  have lkf15 := hts (.fieldLink RX2 15 "WireLamps$State" "losses" "[I") (by decide +kernel)
  have in_X2 : ∀ w ∈ u_ws RX2 TX2 13, w ∈ wsX2_lengthAt := by decide +kernel
  refine lv_iload_n hx hb dX2_lengthAt_0 rfl (lv_at hl 2 rfl) ?_
  refine lv_istore_n (lv' := [(3, .int x), (0, .ref (a 0)), (1, .int (nI j)), (2, .int x)]) hx hb dX2_lengthAt_1 rfl hl (by decide) rfl (fun ls hl => ?_)
  refine lv_iconst (v := 0) hx hb dX2_lengthAt_2 (by decide) ?_
  refine lv_istore (lv' := [(4, .int 0), (3, .int x), (0, .ref (a 0)), (1, .int (nI j)), (2, .int x)]) hx hb dX2_lengthAt_3 hl (by decide) rfl (fun ls hl => ?_)
  suffices K1 : ∀ (n2 : Nat) (i : Nat), j - i < n2 → (i ≤ j) → ∀ (ls : Array Slot), lv_has ls 5 [(4, .int (nI i)), (3, .int (q_tr v i x)), (0, .ref (a 0)), (1, .int (nI j))] → W p l e ({ frames := 2, cells := 0, slots := 0, locals := 42 } : Room) s m ([.ref (a 0), .int (nI j), .int x] : List Value).toArray below meth c s.heap [] 0 0 (MQ below (vp_Si (fun r : Int32 => r = q_ar v j x)) ([.ref (a 0), .int (nI j), .int x] : List Value).toArray s 0 0 (fun _ => False)) (F0 m 5 ls []) from K1 (j + 1) 0 (by omega) (by omega) _  (lv_sub hl [0, 1, 2, 3] rfl)
  intro n2
  induction n2 with
  | zero => intro i hm; exact absurd hm (Nat.not_lt_zero _)
  | succ n2 ih3 =>
    intro i hm hi ls  hl
    refine lv_iload hx hb dX2_lengthAt_5 (lv_at hl 0 rfl) ?_
    refine lv_iload_n hx hb dX2_lengthAt_7 rfl (lv_at hl 3 rfl) ?_
    refine wl_icmp_ge (tgt := 44) hx hb i j dX2_lengthAt_8 (by decide) (by omega) (by omega) (fun c4 => ?_) (fun c4 => ?_)
    · refine lv_iload_n hx hb dX2_lengthAt_44 rfl (lv_at hl 1 rfl) ?_
      refine lv_aload_n hx hb dX2_lengthAt_45 rfl (lv_at hl 2 rfl) ?_
      refine wl_getf (C := RX2) (T := TX2) (N := 13) (ci := 2) (v := .ref (a 2)) hx hb hts in_X2 hown hK hP 0 0 rfl rfl rfl 1 (by decide) lkf15 rfl rfl dX2_lengthAt_46 ?_
      refine lv_iload_n hx hb dX2_lengthAt_49 rfl (lv_at hl 3 rfl) ?_
      refine wl_iald hx hb hK hP 0 2 rfl rfl j (by omega) (Nat.le_of_ble_eq_true rfl) dX2_lengthAt_50 ?_
      refine wl_pS (As := [.int (q_tr v i x), .int (v 1 j)]) (rest := []) ⟨hx, hb, hml, hown, hts⟩ (m_X2_shortened l D cy (q_tr v i x) (v 1 j) ) (va_cwS 2 hts gX2_lengthAt_X2_shortened rfl rfl rfl (by decide +kernel) ⟨Nat.le_of_ble_eq_true rfl, Nat.le_of_ble_eq_true rfl⟩) hK hP [] rfl rfl hl.1 rfl (Nat.le_of_ble_eq_true rfl) dX2_lengthAt_51 ⟨Nat.le_of_ble_eq_true rfl, Nat.le_of_ble_eq_true rfl⟩ (fun r5 er5 => ?_)
      have er5 : r5 = q_sh (q_tr v i x) (v 1 j) := er5
      subst er5
      exact wl_ri (r := (q_sh (q_tr v i x) (v 1 j))) hx hb hr hlocks (by obtain rfl : i = j := (by omega); rfl) dX2_lengthAt_54
    · refine lv_iload_n hx hb dX2_lengthAt_11 rfl (lv_at hl 1 rfl) ?_
      refine lv_aload_n hx hb dX2_lengthAt_12 rfl (lv_at hl 2 rfl) ?_
      refine wl_getf (C := RX2) (T := TX2) (N := 13) (ci := 2) (v := .ref (a 2)) hx hb hts in_X2 hown hK hP 0 0 rfl rfl rfl 1 (by decide) lkf15 rfl rfl dX2_lengthAt_13 ?_
      refine lv_iload hx hb dX2_lengthAt_16 (lv_at hl 0 rfl) ?_
      refine wl_iald hx hb hK hP 0 2 rfl rfl i (by omega) (Nat.le_of_ble_eq_true rfl) dX2_lengthAt_18 ?_
      refine wl_pS (As := [.int (q_tr v i x), .int (v 1 i)]) (rest := []) ⟨hx, hb, hml, hown, hts⟩ (m_X2_shortened l D cy (q_tr v i x) (v 1 i) ) (va_cwS 2 hts gX2_lengthAt_X2_shortened rfl rfl rfl (by decide +kernel) ⟨Nat.le_of_ble_eq_true rfl, Nat.le_of_ble_eq_true rfl⟩) hK hP [] rfl rfl hl.1 rfl (Nat.le_of_ble_eq_true rfl) dX2_lengthAt_19 ⟨Nat.le_of_ble_eq_true rfl, Nat.le_of_ble_eq_true rfl⟩ (fun r6 er6 => ?_)
      have er6 : r6 = q_sh (q_tr v i x) (v 1 i) := er6
      subst er6
      refine lv_istore_n (lv' := [(3, .int (q_sh (q_tr v i x) (v 1 i))), (4, .int (nI i)), (0, .ref (a 0)), (1, .int (nI j))]) hx hb dX2_lengthAt_22 rfl hl (by decide) rfl (fun ls hl => ?_)
      refine lv_aload_n hx hb dX2_lengthAt_23 rfl (lv_at hl 2 rfl) ?_
      refine lv_iload hx hb dX2_lengthAt_24 (lv_at hl 1 rfl) ?_
      refine wl_pV (As := [.int (nI i)]) (rest := []) ⟨hx, hb, hml, hown, hts⟩ (m_X2_takesWords l D cy a v i (by omega)) (cwV 1 hts gX2_lengthAt_X2_takesWords rfl rfl rfl (by decide +kernel) ⟨Nat.le_of_ble_eq_true rfl, Nat.le_of_ble_eq_true rfl⟩) hK hP [0] rfl rfl rfl rfl rfl rfl hl.1 rfl (Nat.le_of_ble_eq_true rfl) dX2_lengthAt_26 ⟨Nat.le_of_ble_eq_true rfl, Nat.le_of_ble_eq_true rfl⟩ (fun r7 er7 => ?_)
      have er7 : r7 = if (v 0 i = 0 ∨ v 0 i = 1) then 1 else 0 := er7
      have K11 : ∀ (ls : Array Slot) (v10 : Int32), v10 = (if (v 0 i = 0 ∨ v 0 i = 1) then (q_ho v (q_sh (q_tr v i x) (v 1 i))) else (q_sh (q_tr v i x) (v 1 i))) → lv_has ls 5 [(3, .int v10), (4, .int (nI i)), (0, .ref (a 0)), (1, .int (nI j))] → W p l e ({ frames := 2, cells := 0, slots := 0, locals := 42 } : Room) s m ([.ref (a 0), .int (nI j), .int x] : List Value).toArray below meth c s.heap [] 0 0 (MQ below (vp_Si (fun r : Int32 => r = q_ar v j x)) ([.ref (a 0), .int (nI j), .int x] : List Value).toArray s 0 0 (fun _ => False)) (F0 m 38 ls []) := by
        intro ls v10 ev10  hl
        refine lv_iinc (v := nI (i + 1)) (lv' := [(4, .int (nI (i + 1))), (3, .int v10), (0, .ref (a 0)), (1, .int (nI j))]) hx hb dX2_lengthAt_38 hl (k := 1) rfl (by rw [wl_inc]) (by decide) rfl (fun ls hl => ?_)
        refine lv_goto (tgt := 5) hx hb dX2_lengthAt_41 (by decide) ?_
        subst ev10
        exact ih3 (i + 1) (by omega) (by omega) _  (lv_sub hl [0, 1, 2, 3] rfl)
      refine wl_b_eq (tgt := 38) hx hb (v 0 i = 0 ∨ v 0 i = 1) er7 dX2_lengthAt_29 (by decide) (fun c8 => ?_) (fun c8 => ?_)
      · exact K11 _ (q_sh (q_tr v i x) (v 1 i)) (by rw [if_neg c8]) (lv_sub hl [0, 1, 2, 3] rfl)
      · refine lv_aload_n hx hb dX2_lengthAt_32 rfl (lv_at hl 2 rfl) ?_
        refine lv_iload_n hx hb dX2_lengthAt_33 rfl (lv_at hl 0 rfl) ?_
        refine wl_pV (As := [.int (q_sh (q_tr v i x) (v 1 i))]) (rest := []) ⟨hx, hb, hml, hown, hts⟩ (m_X2_handedOn l D cy a v (q_sh (q_tr v i x) (v 1 i)) ) (cwV 1 hts gX2_lengthAt_X2_handedOn rfl rfl rfl (by decide +kernel) ⟨Nat.le_of_ble_eq_true rfl, Nat.le_of_ble_eq_true rfl⟩) hK hP [0] rfl rfl rfl rfl rfl rfl hl.1 rfl (Nat.le_of_ble_eq_true rfl) dX2_lengthAt_34 ⟨Nat.le_of_ble_eq_true rfl, Nat.le_of_ble_eq_true rfl⟩ (fun r9 er9 => ?_)
        have er9 : r9 = q_ho v (q_sh (q_tr v i x) (v 1 i)) := er9
        subst er9
        refine lv_istore_n (lv' := [(3, .int (q_ho v (q_sh (q_tr v i x) (v 1 i)))), (4, .int (nI i)), (0, .ref (a 0)), (1, .int (nI j))]) hx hb dX2_lengthAt_37 rfl hl (by decide) rfl (fun ls hl => ?_)
        exact K11 _ (q_ho v (q_sh (q_tr v i x) (v 1 i))) (by rw [if_pos c8]) (lv_sub hl [0, 1, 2, 3] rfl)
set_option maxHeartbeats 4000000 in
set_option maxRecDepth 100000 in
theorem m_X2_wordByPlace (l : Launch) (D : va_G) (cy : Nat → ClassId) (a : Nat → Nat) (v : Nat → Nat → Int32) (j n : Nat) (hj : j < 8) (hn : v 7 0 = nI n) (hn2 : n ≤ 120) : Met l yX2_wordByPlace wsX2_wordByPlace ({ frames := 3, cells := 0, slots := 0, locals := 66 } : Room) (wl_pc D cy [stW cy a v] [.ref (a 0), .int (nI j)]) (vp_Si (fun r : Int32 => r = q_wbp v j n)) 0 0 (fun _ => False) := by
  refine wl_ofP (cc := cX2_wordByPlace) (maxL := 6) (ret := (some .int)) (by decide) rfl (Nat.le_of_ble_eq_true rfl) ?_
  intro p e s m below meth c ls hx hb hr hts hown hlocks hml hP hK hl
  have hl : lv_has ls 6 [(0, .ref (a 0)), (1, .int (nI j))] := hl
  have lkf18 := hts (.fieldLink RX2 18 "WireLamps$State" "known" "[I") (by decide +kernel)
  have lkf30 := hts (.fieldLink RX2 30 "WireLamps$State" "pulses" "[I") (by decide +kernel)
  have lkf39 := hts (.fieldLink RX2 39 "WireLamps$State" "pulseCount" "I") (by decide +kernel)
  have in_X2 : ∀ w ∈ u_ws RX2 TX2 13, w ∈ wsX2_wordByPlace := by decide +kernel
  refine lv_aload_n hx hb dX2_wordByPlace_0 rfl (lv_at hl 0 rfl) ?_
  refine lv_iload_n hx hb dX2_wordByPlace_1 rfl (lv_at hl 1 rfl) ?_
  refine wl_pV (As := [.int (nI j)]) (rest := []) ⟨hx, hb, hml, hown, hts⟩ (m_X2_wordsUpTo l D cy a v j (by omega)) (cwV 1 hts gX2_wordByPlace_X2_wordsUpTo rfl rfl rfl (by decide +kernel) ⟨Nat.le_of_ble_eq_true rfl, Nat.le_of_ble_eq_true rfl⟩) hK hP [0] rfl rfl rfl rfl rfl rfl hl.1 rfl (Nat.le_of_ble_eq_true rfl) dX2_wordByPlace_2 ⟨Nat.le_of_ble_eq_true rfl, Nat.le_of_ble_eq_true rfl⟩ (fun r1 er1 => ?_)
  have er1 : r1 = q_wu v j := er1
  subst er1
  refine lv_istore_n (lv' := [(2, .int (q_wu v j)), (0, .ref (a 0)), (1, .int (nI j))]) hx hb dX2_wordByPlace_5 rfl hl (by decide) rfl (fun ls hl => ?_)
  refine lv_iload_n hx hb dX2_wordByPlace_6 rfl (lv_at hl 0 rfl) ?_
  refine lv_bipush (v := 12) hx hb dX2_wordByPlace_7 (by decide) ?_
  refine lv_imul hx hb dX2_wordByPlace_9 ?_
  refine lv_istore_n (lv' := [(3, .int ((q_wu v j) * 12)), (2, .int (q_wu v j)), (0, .ref (a 0)), (1, .int (nI j))]) hx hb dX2_wordByPlace_10 rfl hl (by decide) rfl (fun ls hl => ?_)
  refine lv_iload_n hx hb dX2_wordByPlace_11 rfl (lv_at hl 1 rfl) ?_
  refine lv_iconst (v := (-1)) hx hb dX2_wordByPlace_12 (by decide) ?_
  refine lv_icmp_eq (tgt := 30) hx hb dX2_wordByPlace_13 (by decide) (fun hw => ?_) (fun hw => ?_)
  · refine lv_aload_n hx hb dX2_wordByPlace_30 rfl (lv_at hl 2 rfl) ?_
    refine wl_getf (C := RX2) (T := TX2) (N := 13) (ci := 2) (v := .ref (a 3)) hx hb hts in_X2 hown hK hP 0 0 rfl rfl rfl 2 (by decide) lkf18 rfl rfl dX2_wordByPlace_31 ?_
    refine lv_iload_n hx hb dX2_wordByPlace_34 rfl (lv_at hl 3 rfl) ?_
    refine wl_iald hx hb hK hP 0 3 rfl rfl j (by omega) (Nat.le_of_ble_eq_true rfl) dX2_wordByPlace_35 ?_
    exact wl_ri (r := (v 2 j)) hx hb hr hlocks (by exact (if_neg (fun h => q_wu_neg (by omega) hw h.1)).symm) dX2_wordByPlace_36
  · have hw2 : q_wu v j * 12 = nI ((q_ta v j + 1) * 12) := by rw [q_wu_nat hw]; exact pk_mul _ 12
    have htj := q_ta_le v j
    have hl : lv_has ls 6 [(3, .int (nI ((q_ta v j + 1) * 12))), (2, .int (nI (q_ta v j + 1))), (0, .ref (a 0)), (1, .int (nI j))] := by rw [hw2, q_wu_nat hw] at hl; exact hl
    refine lv_iload_n hx hb dX2_wordByPlace_16 rfl (lv_at hl 0 rfl) ?_
    refine lv_aload_n hx hb dX2_wordByPlace_17 rfl (lv_at hl 2 rfl) ?_
    refine wl_getf (C := RX2) (T := TX2) (N := 13) (ci := 2) (v := .int (v 7 0)) hx hb hts in_X2 hown hK hP 0 0 rfl rfl rfl 7 (by decide) lkf39 rfl rfl dX2_wordByPlace_18 ?_
    refine wl_top (y := nI n) hn ?_
    refine wl_icmp_gt (tgt := 30) hx hb ((q_ta v j + 1) * 12) n dX2_wordByPlace_21 (by decide) (by omega) (by omega) (fun hge => ?_) (fun hge => ?_)
    · refine lv_aload_n hx hb dX2_wordByPlace_30 rfl (lv_at hl 2 rfl) ?_
      refine wl_getf (C := RX2) (T := TX2) (N := 13) (ci := 2) (v := .ref (a 3)) hx hb hts in_X2 hown hK hP 0 0 rfl rfl rfl 2 (by decide) lkf18 rfl rfl dX2_wordByPlace_31 ?_
      refine lv_iload_n hx hb dX2_wordByPlace_34 rfl (lv_at hl 3 rfl) ?_
      refine wl_iald hx hb hK hP 0 3 rfl rfl j (by omega) (Nat.le_of_ble_eq_true rfl) dX2_wordByPlace_35 ?_
      exact wl_ri (r := (v 2 j)) hx hb hr hlocks (by exact (if_neg (fun h => by omega)).symm) dX2_wordByPlace_36
    · refine lv_iload_n hx hb dX2_wordByPlace_24 rfl (lv_at hl 0 rfl) ?_
      refine lv_bipush (v := 120) hx hb dX2_wordByPlace_25 (by decide) ?_
      refine wl_icmp_le (tgt := 37) hx hb ((q_ta v j + 1) * 12) 120 dX2_wordByPlace_27 (by decide) (by omega) (by omega) (fun c2 => ?_) (fun c2 => absurd c2 (by omega))
      refine lv_iconst (v := 0) hx hb dX2_wordByPlace_37 (by decide) ?_
      refine lv_istore (lv' := [(4, .int 0), (3, .int (nI ((q_ta v j + 1) * 12))), (2, .int (nI (q_ta v j + 1))), (0, .ref (a 0)), (1, .int (nI j))]) hx hb dX2_wordByPlace_38 hl (by decide) rfl (fun ls hl => ?_)
      refine lv_iload_n hx hb dX2_wordByPlace_40 rfl (lv_at hl 1 rfl) ?_
      refine lv_bipush (v := 12) hx hb dX2_wordByPlace_41 (by decide) ?_
      refine lv_isub hx hb dX2_wordByPlace_43 ?_
      refine wl_top (y := nI (q_ta v j * 12)) (show nI ((q_ta v j + 1) * 12) - nI 12 = nI (q_ta v j * 12) by rw [pk_sub (by omega)]; congr 1; omega) ?_
      refine lv_istore (lv' := [(5, .int (nI (q_ta v j * 12))), (4, .int 0), (3, .int (nI ((q_ta v j + 1) * 12))), (2, .int (nI (q_ta v j + 1))), (0, .ref (a 0)), (1, .int (nI j))]) hx hb dX2_wordByPlace_44 hl (by decide) rfl (fun ls hl => ?_)
      suffices K3 : ∀ (n4 : Nat) (d : Nat), 12 - d < n4 → (d ≤ 12) → ∀ (ls : Array Slot), lv_has ls 6 [(5, .int (nI (q_ta v j * 12 + d))), (4, .int (q_wd (fun z => q_rd v (q_ar v j (v 6 (q_ta v j * 12 + z)))) d)), (3, .int (nI ((q_ta v j + 1) * 12))), (0, .ref (a 0)), (1, .int (nI j))] → W p l e ({ frames := 3, cells := 0, slots := 0, locals := 66 } : Room) s m ([.ref (a 0), .int (nI j)] : List Value).toArray below meth c s.heap [] 0 0 (MQ below (vp_Si (fun r : Int32 => r = q_wbp v j n)) ([.ref (a 0), .int (nI j)] : List Value).toArray s 0 0 (fun _ => False)) (F0 m 46 ls []) from K3 13 0 (by omega) (by omega) _  (lv_sub hl [0, 1, 2, 4, 5] rfl)
      intro n4
      induction n4 with
      | zero => intro d hm; exact absurd hm (Nat.not_lt_zero _)
      | succ n4 ih5 =>
        intro d hm hd ls  hl
        refine lv_iload hx hb dX2_wordByPlace_46 (lv_at hl 0 rfl) ?_
        refine wl_if_lt (tgt := 94) hx hb (q_ta v j * 12 + d) dX2_wordByPlace_48 (by decide) (by omega) ?_
        refine lv_iload hx hb dX2_wordByPlace_51 (lv_at hl 0 rfl) ?_
        refine lv_iload_n hx hb dX2_wordByPlace_53 rfl (lv_at hl 2 rfl) ?_
        refine wl_icmp_ge (tgt := 94) hx hb (q_ta v j * 12 + d) ((q_ta v j + 1) * 12) dX2_wordByPlace_54 (by decide) (by omega) (by omega) (fun c7 => ?_) (fun c7 => ?_)
        · refine lv_iload hx hb dX2_wordByPlace_94 (lv_at hl 1 rfl) ?_
          exact wl_ri (r := (q_wd (fun z => q_rd v (q_ar v j (v 6 (q_ta v j * 12 + z)))) d)) hx hb hr hlocks (by obtain rfl : d = 12 := (by omega); exact (if_pos ⟨q_wu_pos hw, by omega⟩).symm) dX2_wordByPlace_96
        · refine lv_iconst (v := 2) hx hb dX2_wordByPlace_57 (by decide) ?_
          refine lv_iload hx hb dX2_wordByPlace_58 (lv_at hl 1 rfl) ?_
          refine lv_imul hx hb dX2_wordByPlace_60 ?_
          refine lv_aload_n hx hb dX2_wordByPlace_61 rfl (lv_at hl 3 rfl) ?_
          refine lv_aload_n hx hb dX2_wordByPlace_62 rfl (lv_at hl 3 rfl) ?_
          refine lv_iload_n hx hb dX2_wordByPlace_63 rfl (lv_at hl 4 rfl) ?_
          refine lv_aload_n hx hb dX2_wordByPlace_64 rfl (lv_at hl 3 rfl) ?_
          refine wl_getf (C := RX2) (T := TX2) (N := 13) (ci := 2) (v := .ref (a 7)) hx hb hts in_X2 hown hK hP 0 0 rfl rfl rfl 6 (by decide) lkf30 rfl rfl dX2_wordByPlace_65 ?_
          refine lv_iload hx hb dX2_wordByPlace_68 (lv_at hl 0 rfl) ?_
          refine wl_iald hx hb hK hP 0 7 rfl rfl (q_ta v j * 12 + d) (by omega) (Nat.le_of_ble_eq_true rfl) dX2_wordByPlace_70 ?_
          refine wl_pV (As := [.int (nI j), .int (v 6 (q_ta v j * 12 + d))]) (rest := [.ref (a 0), .int (2 * (q_wd (fun z => q_rd v (q_ar v j (v 6 (q_ta v j * 12 + z)))) d))]) ⟨hx, hb, hml, hown, hts⟩ (m_X2_lengthAt l D cy a v j (v 6 (q_ta v j * 12 + d)) (by omega)) (cwV 2 hts gX2_wordByPlace_X2_lengthAt rfl rfl rfl (by decide +kernel) ⟨Nat.le_of_ble_eq_true rfl, Nat.le_of_ble_eq_true rfl⟩) hK hP [0] rfl rfl rfl rfl rfl rfl hl.1 rfl (Nat.le_of_ble_eq_true rfl) dX2_wordByPlace_71 ⟨Nat.le_of_ble_eq_true rfl, Nat.le_of_ble_eq_true rfl⟩ (fun r8 er8 => ?_)
          have er8 : r8 = q_ar v j (v 6 (q_ta v j * 12 + d)) := er8
          subst er8
          refine wl_pV (As := [.int (q_ar v j (v 6 (q_ta v j * 12 + d)))]) (rest := [.int (2 * (q_wd (fun z => q_rd v (q_ar v j (v 6 (q_ta v j * 12 + z)))) d))]) ⟨hx, hb, hml, hown, hts⟩ (m_X2_isReadAs1 l D cy a v (q_ar v j (v 6 (q_ta v j * 12 + d))) ) (cwV 1 hts gX2_wordByPlace_X2_isReadAs1 rfl rfl rfl (by decide +kernel) ⟨Nat.le_of_ble_eq_true rfl, Nat.le_of_ble_eq_true rfl⟩) hK hP [0] rfl rfl rfl rfl rfl rfl hl.1 rfl (Nat.le_of_ble_eq_true rfl) dX2_wordByPlace_74 ⟨Nat.le_of_ble_eq_true rfl, Nat.le_of_ble_eq_true rfl⟩ (fun r9 er9 => ?_)
          have er9 : r9 = if (¬ (q_ar v j (v 6 (q_ta v j * 12 + d))) < v 5 0) then 1 else 0 := er9
          have K12 : ∀ (ls : Array Slot) (v11 : Int32), v11 = (if (¬ (q_ar v j (v 6 (q_ta v j * 12 + d))) < v 5 0) then 1 else 0) → lv_has ls 6 [(5, .int (nI (q_ta v j * 12 + d))), (3, .int (nI ((q_ta v j + 1) * 12))), (0, .ref (a 0)), (1, .int (nI j))] → W p l e ({ frames := 3, cells := 0, slots := 0, locals := 66 } : Room) s m ([.ref (a 0), .int (nI j)] : List Value).toArray below meth c s.heap [] 0 0 (MQ below (vp_Si (fun r : Int32 => r = q_wbp v j n)) ([.ref (a 0), .int (nI j)] : List Value).toArray s 0 0 (fun _ => False)) (F0 m 85 ls [.int v11, .int (2 * (q_wd (fun z => q_rd v (q_ar v j (v 6 (q_ta v j * 12 + z)))) d))]) := by
            intro ls v11 ev11  hl
            refine lv_iadd hx hb dX2_wordByPlace_85 ?_
            refine lv_istore (lv' := [(4, .int ((2 * (q_wd (fun z => q_rd v (q_ar v j (v 6 (q_ta v j * 12 + z)))) d)) + v11)), (5, .int (nI (q_ta v j * 12 + d))), (3, .int (nI ((q_ta v j + 1) * 12))), (0, .ref (a 0)), (1, .int (nI j))]) hx hb dX2_wordByPlace_86 hl (by decide) rfl (fun ls hl => ?_)
            refine lv_iinc (v := nI ((q_ta v j * 12 + d) + 1)) (lv' := [(5, .int (nI ((q_ta v j * 12 + d) + 1))), (4, .int ((2 * (q_wd (fun z => q_rd v (q_ar v j (v 6 (q_ta v j * 12 + z)))) d)) + v11)), (3, .int (nI ((q_ta v j + 1) * 12))), (0, .ref (a 0)), (1, .int (nI j))]) hx hb dX2_wordByPlace_88 hl (k := 1) rfl (by rw [wl_inc]) (by decide) rfl (fun ls hl => ?_)
            refine lv_goto (tgt := 46) hx hb dX2_wordByPlace_91 (by decide) ?_
            subst ev11
            exact ih5 (d + 1) (by omega) (by omega) _  (lv_sub hl [0, 1, 2, 3, 4] rfl)
          refine wl_b_eq (tgt := 84) hx hb (¬ (q_ar v j (v 6 (q_ta v j * 12 + d))) < v 5 0) er9 dX2_wordByPlace_77 (by decide) (fun c10 => ?_) (fun c10 => ?_)
          · refine lv_iconst (v := 0) hx hb dX2_wordByPlace_84 (by decide) ?_
            exact K12 _ 0 (by rw [if_neg c10]) (lv_sub hl [0, 2, 3, 4] rfl)
          · refine lv_iconst (v := 1) hx hb dX2_wordByPlace_80 (by decide) ?_
            refine lv_goto (tgt := 85) hx hb dX2_wordByPlace_81 (by decide) ?_
            exact K12 _ 1 (by rw [if_pos c10]) (lv_sub hl [0, 2, 3, 4] rfl)
set_option maxHeartbeats 4000000 in
set_option maxRecDepth 100000 in
theorem m_X2_wrongWith (l : Launch) (D : va_G) (cy : Nat → ClassId) (a : Nat → Nat) (v : Nat → Nat → Int32) (word wl ol : Int32)  : Met l yX2_wrongWith wsX2_wrongWith ({ frames := 2, cells := 0, slots := 0, locals := 42 } : Room) (wl_pc D cy [stW cy a v] [.ref (a 0), .int word, .int wl, .int ol]) (vp_Si (fun r : Int32 => r = q_wm v (q_el v wl ol) word 8)) 0 0 (fun _ => False) := by
  refine wl_ofP (cc := cX2_wrongWith) (maxL := 11) (ret := (some .int)) (by decide) rfl (Nat.le_of_ble_eq_true rfl) ?_
  intro p e s m below meth c ls hx hb hr hts hown hlocks hml hP hK hl
  have hl : lv_has ls 11 [(0, .ref (a 0)), (1, .int word), (2, .int wl), (3, .int ol)] := hl
  have lkf15 := hts (.fieldLink RX2 15 "WireLamps$State" "losses" "[I") (by decide +kernel)
  have lkf18 := hts (.fieldLink RX2 18 "WireLamps$State" "known" "[I") (by decide +kernel)
  have lkf9 := hts (.fieldLink RX2 9 "WireLamps$State" "modes" "[I") (by decide +kernel)
  have in_X2 : ∀ w ∈ u_ws RX2 TX2 13, w ∈ wsX2_wrongWith := by decide +kernel
  refine lv_bipush (v := 8) hx hb dX2_wrongWith_0 (by decide) ?_
  refine lv_istore (lv' := [(4, .int 8), (0, .ref (a 0)), (1, .int word), (2, .int wl), (3, .int ol)]) hx hb dX2_wrongWith_2 hl (by decide) rfl (fun ls hl => ?_)
  refine lv_iconst (v := 4) hx hb dX2_wrongWith_4 (by decide) ?_
  refine lv_istore (lv' := [(5, .int 4), (4, .int 8), (0, .ref (a 0)), (1, .int word), (2, .int wl), (3, .int ol)]) hx hb dX2_wrongWith_5 hl (by decide) rfl (fun ls hl => ?_)
  refine lv_iconst (v := 1) hx hb dX2_wrongWith_7 (by decide) ?_
  refine lv_istore (lv' := [(6, .int 1), (5, .int 4), (4, .int 8), (0, .ref (a 0)), (1, .int word), (2, .int wl), (3, .int ol)]) hx hb dX2_wrongWith_8 hl (by decide) rfl (fun ls hl => ?_)
  refine lv_iconst (v := 0) hx hb dX2_wrongWith_10 (by decide) ?_
  refine lv_istore (lv' := [(7, .int 0), (6, .int 1), (5, .int 4), (4, .int 8), (0, .ref (a 0)), (1, .int word), (2, .int wl), (3, .int ol)]) hx hb dX2_wrongWith_11 hl (by decide) rfl (fun ls hl => ?_)
  refine lv_iconst (v := 0) hx hb dX2_wrongWith_13 (by decide) ?_
  refine lv_istore (lv' := [(8, .int 0), (7, .int 0), (6, .int 1), (5, .int 4), (4, .int 8), (0, .ref (a 0)), (1, .int word), (2, .int wl), (3, .int ol)]) hx hb dX2_wrongWith_14 hl (by decide) rfl (fun ls hl => ?_)
  suffices K1 : ∀ (n2 : Nat) (i : Nat) (pc6 : Int32), 8 - i < n2 → (i ≤ 8) → (pc6 = if q_cut v i = false then 1 else 0) → ∀ (ls : Array Slot), lv_has ls 11 [(8, .int (nI i)), (7, .int (q_wm v (q_el v wl ol) word i)), (6, .int pc6), (5, .int (q_wo v (q_el v wl ol) 4 i)), (4, .int (q_wo v (q_el v wl ol) 8 i)), (0, .ref (a 0)), (1, .int word), (2, .int wl), (3, .int ol)] → W p l e ({ frames := 2, cells := 0, slots := 0, locals := 42 } : Room) s m ([.ref (a 0), .int word, .int wl, .int ol] : List Value).toArray below meth c s.heap [] 0 0 (MQ below (vp_Si (fun r : Int32 => r = q_wm v (q_el v wl ol) word 8)) ([.ref (a 0), .int word, .int wl, .int ol] : List Value).toArray s 0 0 (fun _ => False)) (F0 m 16 ls []) from K1 9 0 1 (by omega) (by omega) rfl _  (lv_sub hl [0, 1, 2, 3, 4, 5, 6, 7, 8] rfl)
  intro n2
  induction n2 with
  | zero => intro i pc6 hm; exact absurd hm (Nat.not_lt_zero _)
  | succ n2 ih3 =>
    intro i pc6 hm hi hpc ls  hl
    refine lv_iload hx hb dX2_wrongWith_16 (lv_at hl 0 rfl) ?_
    refine lv_bipush (v := 8) hx hb dX2_wrongWith_18 (by decide) ?_
    refine wl_icmp_ge (tgt := 183) hx hb i 8 dX2_wrongWith_20 (by decide) (by omega) (by omega) (fun c4 => ?_) (fun c4 => ?_)
    · obtain rfl : i = 8 := by omega
      refine lv_iload hx hb dX2_wrongWith_183 (lv_at hl 1 rfl) ?_
      exact wl_ri (r := (q_wm v (q_el v wl ol) word 8)) hx hb hr hlocks (by rfl) dX2_wrongWith_185
    · refine lv_iload hx hb dX2_wrongWith_23 (lv_at hl 0 rfl) ?_
      refine lv_iload_n hx hb dX2_wrongWith_25 rfl (lv_at hl 7 rfl) ?_
      have K7 : ∀ (ls : Array Slot) (v6 : Int32), v6 = (if (nI i) = wl then ol else (v 1 i)) → lv_has ls 11 [(8, .int (nI i)), (7, .int (q_wm v (q_el v wl ol) word i)), (6, .int pc6), (5, .int (q_wo v (q_el v wl ol) 4 i)), (4, .int (q_wo v (q_el v wl ol) 8 i)), (0, .ref (a 0)), (1, .int word), (2, .int wl), (3, .int ol)] → W p l e ({ frames := 2, cells := 0, slots := 0, locals := 42 } : Room) s m ([.ref (a 0), .int word, .int wl, .int ol] : List Value).toArray below meth c s.heap [] 0 0 (MQ below (vp_Si (fun r : Int32 => r = q_wm v (q_el v wl ol) word 8)) ([.ref (a 0), .int word, .int wl, .int ol] : List Value).toArray s 0 0 (fun _ => False)) (F0 m 40 ls [.int v6]) := by
        intro ls v6 ev6  hl
        refine lv_istore (lv' := [(9, .int v6), (8, .int (nI i)), (7, .int (q_wm v (q_el v wl ol) word i)), (6, .int pc6), (5, .int (q_wo v (q_el v wl ol) 4 i)), (4, .int (q_wo v (q_el v wl ol) 8 i)), (0, .ref (a 0)), (1, .int word), (2, .int wl), (3, .int ol)]) hx hb dX2_wrongWith_40 hl (by decide) rfl (fun ls hl => ?_)
        refine lv_iload hx hb dX2_wrongWith_42 (lv_at hl 5 rfl) ?_
        refine lv_iload hx hb dX2_wrongWith_44 (lv_at hl 0 rfl) ?_
        refine wl_pS (As := [.int (q_wo v (q_el v wl ol) 8 i), .int v6]) (rest := []) ⟨hx, hb, hml, hown, hts⟩ (m_X2_shortened l D cy (q_wo v (q_el v wl ol) 8 i) v6 ) (va_cwS 2 hts gX2_wrongWith_X2_shortened rfl rfl rfl (by decide +kernel) ⟨Nat.le_of_ble_eq_true rfl, Nat.le_of_ble_eq_true rfl⟩) hK hP [] rfl rfl hl.1 rfl (Nat.le_of_ble_eq_true rfl) dX2_wrongWith_46 ⟨Nat.le_of_ble_eq_true rfl, Nat.le_of_ble_eq_true rfl⟩ (fun r8 er8 => ?_)
        have er8 : r8 = q_sh (q_wo v (q_el v wl ol) 8 i) v6 := er8
        subst er8
        refine lv_istore (lv' := [(4, .int (q_sh (q_wo v (q_el v wl ol) 8 i) v6)), (9, .int v6), (8, .int (nI i)), (7, .int (q_wm v (q_el v wl ol) word i)), (6, .int pc6), (5, .int (q_wo v (q_el v wl ol) 4 i)), (0, .ref (a 0)), (1, .int word), (2, .int wl), (3, .int ol)]) hx hb dX2_wrongWith_49 hl (by decide) rfl (fun ls hl => ?_)
        refine lv_iload hx hb dX2_wrongWith_51 (lv_at hl 5 rfl) ?_
        refine lv_iload hx hb dX2_wrongWith_53 (lv_at hl 1 rfl) ?_
        refine wl_pS (As := [.int (q_wo v (q_el v wl ol) 4 i), .int v6]) (rest := []) ⟨hx, hb, hml, hown, hts⟩ (m_X2_shortened l D cy (q_wo v (q_el v wl ol) 4 i) v6 ) (va_cwS 2 hts gX2_wrongWith_X2_shortened rfl rfl rfl (by decide +kernel) ⟨Nat.le_of_ble_eq_true rfl, Nat.le_of_ble_eq_true rfl⟩) hK hP [] rfl rfl hl.1 rfl (Nat.le_of_ble_eq_true rfl) dX2_wrongWith_55 ⟨Nat.le_of_ble_eq_true rfl, Nat.le_of_ble_eq_true rfl⟩ (fun r9 er9 => ?_)
        have er9 : r9 = q_sh (q_wo v (q_el v wl ol) 4 i) v6 := er9
        subst er9
        refine lv_istore (lv' := [(5, .int (q_sh (q_wo v (q_el v wl ol) 4 i) v6)), (4, .int (q_sh (q_wo v (q_el v wl ol) 8 i) v6)), (9, .int v6), (8, .int (nI i)), (7, .int (q_wm v (q_el v wl ol) word i)), (6, .int pc6), (0, .ref (a 0)), (1, .int word), (2, .int wl), (3, .int ol)]) hx hb dX2_wrongWith_58 hl (by decide) rfl (fun ls hl => ?_)
        refine lv_aload_n hx hb dX2_wrongWith_60 rfl (lv_at hl 6 rfl) ?_
        refine wl_getf (C := RX2) (T := TX2) (N := 13) (ci := 2) (v := .ref (a 3)) hx hb hts in_X2 hown hK hP 0 0 rfl rfl rfl 2 (by decide) lkf18 rfl rfl dX2_wrongWith_61 ?_
        refine lv_iload hx hb dX2_wrongWith_64 (lv_at hl 3 rfl) ?_
        refine wl_iald hx hb hK hP 0 3 rfl rfl i (by omega) (Nat.le_of_ble_eq_true rfl) dX2_wrongWith_66 ?_
        refine lv_istore (lv' := [(10, .int (v 2 i)), (5, .int (q_sh (q_wo v (q_el v wl ol) 4 i) v6)), (4, .int (q_sh (q_wo v (q_el v wl ol) 8 i) v6)), (9, .int v6), (8, .int (nI i)), (7, .int (q_wm v (q_el v wl ol) word i)), (6, .int pc6), (0, .ref (a 0)), (1, .int word), (2, .int wl), (3, .int ol)]) hx hb dX2_wrongWith_67 hl (by decide) rfl (fun ls hl => ?_)
        refine lv_aload_n hx hb dX2_wrongWith_69 rfl (lv_at hl 7 rfl) ?_
        refine lv_iload hx hb dX2_wrongWith_70 (lv_at hl 4 rfl) ?_
        refine wl_pV (As := [.int (nI i)]) (rest := []) ⟨hx, hb, hml, hown, hts⟩ (m_X2_takesWords l D cy a v i (by omega)) (cwV 1 hts gX2_wrongWith_X2_takesWords rfl rfl rfl (by decide +kernel) ⟨Nat.le_of_ble_eq_true rfl, Nat.le_of_ble_eq_true rfl⟩) hK hP [0] rfl rfl rfl rfl rfl rfl hl.1 rfl (Nat.le_of_ble_eq_true rfl) dX2_wrongWith_72 ⟨Nat.le_of_ble_eq_true rfl, Nat.le_of_ble_eq_true rfl⟩ (fun r10 er10 => ?_)
        have er10 : r10 = if (v 0 i = 0 ∨ v 0 i = 1) then 1 else 0 := er10
        have K26 : ∀ (ls : Array Slot) (v23 : Int32) (v24 : Int32) (v25 : Int32), v23 = (if (v 0 i = 0 ∨ v 0 i = 1) then (if q_cut v i = false then ((if (¬ (q_sh (q_wo v (q_el v wl ol) 8 i) v6) < v 5 0) then word else 0) ||| (if (¬ (q_sh (q_wo v (q_el v wl ol) 4 i) v6) < v 5 0) then (4095 - word) else 0)) else (v 2 i)) else (v 2 i)) → v24 = (if (v 0 i = 0 ∨ v 0 i = 1) then (if q_cut v i = false then (q_ho v (q_sh (q_wo v (q_el v wl ol) 4 i) v6)) else (q_sh (q_wo v (q_el v wl ol) 4 i) v6)) else (q_sh (q_wo v (q_el v wl ol) 4 i) v6)) → v25 = (if (v 0 i = 0 ∨ v 0 i = 1) then (if q_cut v i = false then (q_ho v (q_sh (q_wo v (q_el v wl ol) 8 i) v6)) else (q_sh (q_wo v (q_el v wl ol) 8 i) v6)) else (q_sh (q_wo v (q_el v wl ol) 8 i) v6)) → lv_has ls 11 [(10, .int v23), (5, .int v24), (4, .int v25), (8, .int (nI i)), (7, .int (q_wm v (q_el v wl ol) word i)), (6, .int pc6), (0, .ref (a 0)), (1, .int word), (2, .int wl), (3, .int ol)] → W p l e ({ frames := 2, cells := 0, slots := 0, locals := 42 } : Room) s m ([.ref (a 0), .int word, .int wl, .int ol] : List Value).toArray below meth c s.heap [] 0 0 (MQ below (vp_Si (fun r : Int32 => r = q_wm v (q_el v wl ol) word 8)) ([.ref (a 0), .int word, .int wl, .int ol] : List Value).toArray s 0 0 (fun _ => False)) (F0 m 134 ls []) := by
          intro ls v23 v24 v25 ev23 ev24 ev25  hl
          refine lv_iload_n hx hb dX2_wrongWith_134 rfl (lv_at hl 7 rfl) ?_
          refine lv_aload_n hx hb dX2_wrongWith_135 rfl (lv_at hl 6 rfl) ?_
          refine wl_getf (C := RX2) (T := TX2) (N := 13) (ci := 2) (v := .ref (a 1)) hx hb hts in_X2 hown hK hP 0 0 rfl rfl rfl 0 (by decide) lkf9 rfl rfl dX2_wrongWith_136 ?_
          refine lv_iload hx hb dX2_wrongWith_139 (lv_at hl 3 rfl) ?_
          refine wl_iald hx hb hK hP 0 1 rfl rfl i (by omega) (Nat.le_of_ble_eq_true rfl) dX2_wrongWith_141 ?_
          have K29 : ∀ (ls : Array Slot) (v28 : Int32), v28 = (if (v 0 i) = 0 then v23 else 0) → lv_has ls 11 [(5, .int v24), (4, .int v25), (8, .int (nI i)), (7, .int (q_wm v (q_el v wl ol) word i)), (6, .int pc6), (0, .ref (a 0)), (1, .int word), (2, .int wl), (3, .int ol)] → W p l e ({ frames := 2, cells := 0, slots := 0, locals := 42 } : Room) s m ([.ref (a 0), .int word, .int wl, .int ol] : List Value).toArray below meth c s.heap [] 0 0 (MQ below (vp_Si (fun r : Int32 => r = q_wm v (q_el v wl ol) word 8)) ([.ref (a 0), .int word, .int wl, .int ol] : List Value).toArray s 0 0 (fun _ => False)) (F0 m 151 ls [.int v28, .int word]) := by
            intro ls v28 ev28  hl
            have K32 : ∀ (ls : Array Slot) (v31 : Int32), v31 = (if word = v28 then (q_wm v (q_el v wl ol) word i) else ((q_wm v (q_el v wl ol) word i) ||| ((1 : Int32) <<< ((nI i) &&& 31)))) → lv_has ls 11 [(5, .int v24), (4, .int v25), (8, .int (nI i)), (7, .int v31), (6, .int pc6), (0, .ref (a 0)), (1, .int word), (2, .int wl), (3, .int ol)] → W p l e ({ frames := 2, cells := 0, slots := 0, locals := 42 } : Room) s m ([.ref (a 0), .int word, .int wl, .int ol] : List Value).toArray below meth c s.heap [] 0 0 (MQ below (vp_Si (fun r : Int32 => r = q_wm v (q_el v wl ol) word 8)) ([.ref (a 0), .int word, .int wl, .int ol] : List Value).toArray s 0 0 (fun _ => False)) (F0 m 163 ls []) := by
              intro ls v31 ev31  hl
              refine lv_aload_n hx hb dX2_wrongWith_163 rfl (lv_at hl 5 rfl) ?_
              refine wl_getf (C := RX2) (T := TX2) (N := 13) (ci := 2) (v := .ref (a 1)) hx hb hts in_X2 hown hK hP 0 0 rfl rfl rfl 0 (by decide) lkf9 rfl rfl dX2_wrongWith_164 ?_
              refine lv_iload hx hb dX2_wrongWith_167 (lv_at hl 2 rfl) ?_
              refine wl_iald hx hb hK hP 0 1 rfl rfl i (by omega) (Nat.le_of_ble_eq_true rfl) dX2_wrongWith_169 ?_
              refine lv_iconst (v := 2) hx hb dX2_wrongWith_170 (by decide) ?_
              have K35 : ∀ (ls : Array Slot) (v34 : Int32), v34 = (if (v 0 i) = 2 then 0 else pc6) → lv_has ls 11 [(5, .int v24), (4, .int v25), (8, .int (nI i)), (7, .int v31), (6, .int v34), (0, .ref (a 0)), (1, .int word), (2, .int wl), (3, .int ol)] → W p l e ({ frames := 2, cells := 0, slots := 0, locals := 42 } : Room) s m ([.ref (a 0), .int word, .int wl, .int ol] : List Value).toArray below meth c s.heap [] 0 0 (MQ below (vp_Si (fun r : Int32 => r = q_wm v (q_el v wl ol) word 8)) ([.ref (a 0), .int word, .int wl, .int ol] : List Value).toArray s 0 0 (fun _ => False)) (F0 m 177 ls []) := by
                intro ls v34 ev34  hl
                refine lv_iinc (v := nI (i + 1)) (lv' := [(8, .int (nI (i + 1))), (5, .int v24), (4, .int v25), (7, .int v31), (6, .int v34), (0, .ref (a 0)), (1, .int word), (2, .int wl), (3, .int ol)]) hx hb dX2_wrongWith_177 hl (k := 2) rfl (by rw [wl_inc]) (by decide) rfl (fun ls hl => ?_)
                refine lv_goto (tgt := 16) hx hb dX2_wrongWith_180 (by decide) ?_
                subst ev6 ev23 ev24 ev25 ev28 ev31 ev34
                exact ih3 (i + 1) (if (v 0 i) = 2 then 0 else pc6) (by omega) (by omega) (by rw [hpc]; by_cases h1 : v 0 i = 2 <;> simp [q_cut, h1]) _  (lv_sub hl [0, 3, 4, 1, 2, 5, 6, 7, 8] rfl)
              refine lv_icmp_ne (tgt := 177) hx hb dX2_wrongWith_171 (by decide) (fun c33 => ?_) (fun c33 => ?_)
              · exact K35 _ pc6 (by rw [if_neg c33]) (lv_sub hl [0, 1, 2, 3, 4, 5, 6, 7, 8] rfl)
              · refine lv_iconst (v := 0) hx hb dX2_wrongWith_174 (by decide) ?_
                refine lv_istore (lv' := [(6, .int 0), (5, .int v24), (4, .int v25), (8, .int (nI i)), (7, .int v31), (0, .ref (a 0)), (1, .int word), (2, .int wl), (3, .int ol)]) hx hb dX2_wrongWith_175 hl (by decide) rfl (fun ls hl => ?_)
                exact K35 _ 0 (by rw [if_pos c33]) (lv_sub hl [1, 2, 3, 4, 0, 5, 6, 7, 8] rfl)
            refine lv_icmp_eq (tgt := 163) hx hb dX2_wrongWith_151 (by decide) (fun c30 => ?_) (fun c30 => ?_)
            · exact K32 _ (q_wm v (q_el v wl ol) word i) (by rw [if_pos c30]) (lv_sub hl [0, 1, 2, 3, 4, 5, 6, 7, 8] rfl)
            · refine lv_iload hx hb dX2_wrongWith_154 (lv_at hl 3 rfl) ?_
              refine lv_iconst (v := 1) hx hb dX2_wrongWith_156 (by decide) ?_
              refine lv_iload hx hb dX2_wrongWith_157 (lv_at hl 2 rfl) ?_
              refine lv_ishl hx hb dX2_wrongWith_159 ?_
              refine lv_ior hx hb dX2_wrongWith_160 ?_
              refine lv_istore (lv' := [(7, .int ((q_wm v (q_el v wl ol) word i) ||| ((1 : Int32) <<< ((nI i) &&& 31)))), (5, .int v24), (4, .int v25), (8, .int (nI i)), (6, .int pc6), (0, .ref (a 0)), (1, .int word), (2, .int wl), (3, .int ol)]) hx hb dX2_wrongWith_161 hl (by decide) rfl (fun ls hl => ?_)
              exact K32 _ ((q_wm v (q_el v wl ol) word i) ||| ((1 : Int32) <<< ((nI i) &&& 31))) (by rw [if_neg c30]) (lv_sub hl [1, 2, 3, 0, 4, 5, 6, 7, 8] rfl)
          refine lv_if_ne (tgt := 150) hx hb dX2_wrongWith_142 (by decide) (fun c27 => ?_) (fun c27 => ?_)
          · refine lv_iconst (v := 0) hx hb dX2_wrongWith_150 (by decide) ?_
            exact K29 _ 0 (by rw [if_neg c27]) (lv_sub hl [1, 2, 3, 4, 5, 6, 7, 8, 9] rfl)
          · refine lv_iload hx hb dX2_wrongWith_145 (lv_at hl 0 rfl) ?_
            refine lv_goto (tgt := 151) hx hb dX2_wrongWith_147 (by decide) ?_
            exact K29 _ v23 (by rw [if_pos c27]) (lv_sub hl [1, 2, 3, 4, 5, 6, 7, 8, 9] rfl)
        refine wl_b_eq (tgt := 134) hx hb (v 0 i = 0 ∨ v 0 i = 1) er10 dX2_wrongWith_75 (by decide) (fun c11 => ?_) (fun c11 => ?_)
        · exact K26 _ (v 2 i) (q_sh (q_wo v (q_el v wl ol) 4 i) v6) (q_sh (q_wo v (q_el v wl ol) 8 i) v6) (by rw [if_neg c11]) (by rw [if_neg c11]) (by rw [if_neg c11]) (lv_sub hl [0, 1, 2, 4, 5, 6, 7, 8, 9, 10] rfl)
        · refine lv_iload hx hb dX2_wrongWith_78 (lv_at hl 6 rfl) ?_
          refine wl_b_eq (tgt := 134) hx hb (q_cut v i = false) hpc dX2_wrongWith_80 (by decide) (fun c12 => ?_) (fun c12 => ?_)
          · exact K26 _ (v 2 i) (q_sh (q_wo v (q_el v wl ol) 4 i) v6) (q_sh (q_wo v (q_el v wl ol) 8 i) v6) (by rw [if_pos c11, if_neg c12]) (by rw [if_pos c11, if_neg c12]) (by rw [if_pos c11, if_neg c12]) (lv_sub hl [0, 1, 2, 4, 5, 6, 7, 8, 9, 10] rfl)
          · refine lv_aload_n hx hb dX2_wrongWith_83 rfl (lv_at hl 7 rfl) ?_
            refine lv_iload hx hb dX2_wrongWith_84 (lv_at hl 2 rfl) ?_
            refine wl_pV (As := [.int (q_sh (q_wo v (q_el v wl ol) 8 i) v6)]) (rest := []) ⟨hx, hb, hml, hown, hts⟩ (m_X2_isReadAs1 l D cy a v (q_sh (q_wo v (q_el v wl ol) 8 i) v6) ) (cwV 1 hts gX2_wrongWith_X2_isReadAs1 rfl rfl rfl (by decide +kernel) ⟨Nat.le_of_ble_eq_true rfl, Nat.le_of_ble_eq_true rfl⟩) hK hP [0] rfl rfl rfl rfl rfl rfl hl.1 rfl (Nat.le_of_ble_eq_true rfl) dX2_wrongWith_86 ⟨Nat.le_of_ble_eq_true rfl, Nat.le_of_ble_eq_true rfl⟩ (fun r13 er13 => ?_)
            have er13 : r13 = if (¬ (q_sh (q_wo v (q_el v wl ol) 8 i) v6) < v 5 0) then 1 else 0 := er13
            have K16 : ∀ (ls : Array Slot) (v15 : Int32), v15 = (if (¬ (q_sh (q_wo v (q_el v wl ol) 8 i) v6) < v 5 0) then word else 0) → lv_has ls 11 [(5, .int (q_sh (q_wo v (q_el v wl ol) 4 i) v6)), (4, .int (q_sh (q_wo v (q_el v wl ol) 8 i) v6)), (8, .int (nI i)), (7, .int (q_wm v (q_el v wl ol) word i)), (6, .int pc6), (0, .ref (a 0)), (1, .int word), (2, .int wl), (3, .int ol)] → W p l e ({ frames := 2, cells := 0, slots := 0, locals := 42 } : Room) s m ([.ref (a 0), .int word, .int wl, .int ol] : List Value).toArray below meth c s.heap [] 0 0 (MQ below (vp_Si (fun r : Int32 => r = q_wm v (q_el v wl ol) word 8)) ([.ref (a 0), .int word, .int wl, .int ol] : List Value).toArray s 0 0 (fun _ => False)) (F0 m 97 ls [.int v15]) := by
              intro ls v15 ev15  hl
              refine lv_aload_n hx hb dX2_wrongWith_97 rfl (lv_at hl 5 rfl) ?_
              refine lv_iload hx hb dX2_wrongWith_98 (lv_at hl 0 rfl) ?_
              refine wl_pV (As := [.int (q_sh (q_wo v (q_el v wl ol) 4 i) v6)]) (rest := [.int v15]) ⟨hx, hb, hml, hown, hts⟩ (m_X2_isReadAs1 l D cy a v (q_sh (q_wo v (q_el v wl ol) 4 i) v6) ) (cwV 1 hts gX2_wrongWith_X2_isReadAs1 rfl rfl rfl (by decide +kernel) ⟨Nat.le_of_ble_eq_true rfl, Nat.le_of_ble_eq_true rfl⟩) hK hP [0] rfl rfl rfl rfl rfl rfl hl.1 rfl (Nat.le_of_ble_eq_true rfl) dX2_wrongWith_100 ⟨Nat.le_of_ble_eq_true rfl, Nat.le_of_ble_eq_true rfl⟩ (fun r17 er17 => ?_)
              have er17 : r17 = if (¬ (q_sh (q_wo v (q_el v wl ol) 4 i) v6) < v 5 0) then 1 else 0 := er17
              have K20 : ∀ (ls : Array Slot) (v19 : Int32), v19 = (if (¬ (q_sh (q_wo v (q_el v wl ol) 4 i) v6) < v 5 0) then (4095 - word) else 0) → lv_has ls 11 [(5, .int (q_sh (q_wo v (q_el v wl ol) 4 i) v6)), (4, .int (q_sh (q_wo v (q_el v wl ol) 8 i) v6)), (8, .int (nI i)), (7, .int (q_wm v (q_el v wl ol) word i)), (6, .int pc6), (0, .ref (a 0)), (1, .int word), (2, .int wl), (3, .int ol)] → W p l e ({ frames := 2, cells := 0, slots := 0, locals := 42 } : Room) s m ([.ref (a 0), .int word, .int wl, .int ol] : List Value).toArray below meth c s.heap [] 0 0 (MQ below (vp_Si (fun r : Int32 => r = q_wm v (q_el v wl ol) word 8)) ([.ref (a 0), .int word, .int wl, .int ol] : List Value).toArray s 0 0 (fun _ => False)) (F0 m 115 ls [.int v19, .int v15]) := by
                intro ls v19 ev19  hl
                refine lv_ior hx hb dX2_wrongWith_115 ?_
                refine lv_istore (lv' := [(10, .int (v15 ||| v19)), (5, .int (q_sh (q_wo v (q_el v wl ol) 4 i) v6)), (4, .int (q_sh (q_wo v (q_el v wl ol) 8 i) v6)), (8, .int (nI i)), (7, .int (q_wm v (q_el v wl ol) word i)), (6, .int pc6), (0, .ref (a 0)), (1, .int word), (2, .int wl), (3, .int ol)]) hx hb dX2_wrongWith_116 hl (by decide) rfl (fun ls hl => ?_)
                refine lv_aload_n hx hb dX2_wrongWith_118 rfl (lv_at hl 6 rfl) ?_
                refine lv_iload hx hb dX2_wrongWith_119 (lv_at hl 2 rfl) ?_
                refine wl_pV (As := [.int (q_sh (q_wo v (q_el v wl ol) 8 i) v6)]) (rest := []) ⟨hx, hb, hml, hown, hts⟩ (m_X2_handedOn l D cy a v (q_sh (q_wo v (q_el v wl ol) 8 i) v6) ) (cwV 1 hts gX2_wrongWith_X2_handedOn rfl rfl rfl (by decide +kernel) ⟨Nat.le_of_ble_eq_true rfl, Nat.le_of_ble_eq_true rfl⟩) hK hP [0] rfl rfl rfl rfl rfl rfl hl.1 rfl (Nat.le_of_ble_eq_true rfl) dX2_wrongWith_121 ⟨Nat.le_of_ble_eq_true rfl, Nat.le_of_ble_eq_true rfl⟩ (fun r21 er21 => ?_)
                have er21 : r21 = q_ho v (q_sh (q_wo v (q_el v wl ol) 8 i) v6) := er21
                subst er21
                refine lv_istore (lv' := [(4, .int (q_ho v (q_sh (q_wo v (q_el v wl ol) 8 i) v6))), (10, .int (v15 ||| v19)), (5, .int (q_sh (q_wo v (q_el v wl ol) 4 i) v6)), (8, .int (nI i)), (7, .int (q_wm v (q_el v wl ol) word i)), (6, .int pc6), (0, .ref (a 0)), (1, .int word), (2, .int wl), (3, .int ol)]) hx hb dX2_wrongWith_124 hl (by decide) rfl (fun ls hl => ?_)
                refine lv_aload_n hx hb dX2_wrongWith_126 rfl (lv_at hl 6 rfl) ?_
                refine lv_iload hx hb dX2_wrongWith_127 (lv_at hl 2 rfl) ?_
                refine wl_pV (As := [.int (q_sh (q_wo v (q_el v wl ol) 4 i) v6)]) (rest := []) ⟨hx, hb, hml, hown, hts⟩ (m_X2_handedOn l D cy a v (q_sh (q_wo v (q_el v wl ol) 4 i) v6) ) (cwV 1 hts gX2_wrongWith_X2_handedOn rfl rfl rfl (by decide +kernel) ⟨Nat.le_of_ble_eq_true rfl, Nat.le_of_ble_eq_true rfl⟩) hK hP [0] rfl rfl rfl rfl rfl rfl hl.1 rfl (Nat.le_of_ble_eq_true rfl) dX2_wrongWith_129 ⟨Nat.le_of_ble_eq_true rfl, Nat.le_of_ble_eq_true rfl⟩ (fun r22 er22 => ?_)
                have er22 : r22 = q_ho v (q_sh (q_wo v (q_el v wl ol) 4 i) v6) := er22
                subst er22
                refine lv_istore (lv' := [(5, .int (q_ho v (q_sh (q_wo v (q_el v wl ol) 4 i) v6))), (4, .int (q_ho v (q_sh (q_wo v (q_el v wl ol) 8 i) v6))), (10, .int (v15 ||| v19)), (8, .int (nI i)), (7, .int (q_wm v (q_el v wl ol) word i)), (6, .int pc6), (0, .ref (a 0)), (1, .int word), (2, .int wl), (3, .int ol)]) hx hb dX2_wrongWith_132 hl (by decide) rfl (fun ls hl => ?_)
                subst ev15 ev19
                exact K26 _ ((if (¬ (q_sh (q_wo v (q_el v wl ol) 8 i) v6) < v 5 0) then word else 0) ||| (if (¬ (q_sh (q_wo v (q_el v wl ol) 4 i) v6) < v 5 0) then (4095 - word) else 0)) (q_ho v (q_sh (q_wo v (q_el v wl ol) 4 i) v6)) (q_ho v (q_sh (q_wo v (q_el v wl ol) 8 i) v6)) (by rw [if_pos c11, if_pos c12]) (by rw [if_pos c11, if_pos c12]) (by rw [if_pos c11, if_pos c12]) (lv_sub hl [2, 0, 1, 3, 4, 5, 6, 7, 8, 9] rfl)
              refine wl_b_eq (tgt := 114) hx hb (¬ (q_sh (q_wo v (q_el v wl ol) 4 i) v6) < v 5 0) er17 dX2_wrongWith_103 (by decide) (fun c18 => ?_) (fun c18 => ?_)
              · refine lv_iconst (v := 0) hx hb dX2_wrongWith_114 (by decide) ?_
                exact K20 _ 0 (by rw [if_neg c18]) (lv_sub hl [0, 1, 2, 3, 4, 5, 6, 7, 8] rfl)
              · refine lv_sipush (v := 4095) hx hb dX2_wrongWith_106 (by decide) ?_
                refine lv_iload_n hx hb dX2_wrongWith_109 rfl (lv_at hl 6 rfl) ?_
                refine lv_isub hx hb dX2_wrongWith_110 ?_
                refine lv_goto (tgt := 115) hx hb dX2_wrongWith_111 (by decide) ?_
                exact K20 _ (4095 - word) (by rw [if_pos c18]) (lv_sub hl [0, 1, 2, 3, 4, 5, 6, 7, 8] rfl)
            refine wl_b_eq (tgt := 96) hx hb (¬ (q_sh (q_wo v (q_el v wl ol) 8 i) v6) < v 5 0) er13 dX2_wrongWith_89 (by decide) (fun c14 => ?_) (fun c14 => ?_)
            · refine lv_iconst (v := 0) hx hb dX2_wrongWith_96 (by decide) ?_
              exact K16 _ 0 (by rw [if_neg c14]) (lv_sub hl [1, 2, 4, 5, 6, 7, 8, 9, 10] rfl)
            · refine lv_iload_n hx hb dX2_wrongWith_92 rfl (lv_at hl 8 rfl) ?_
              refine lv_goto (tgt := 97) hx hb dX2_wrongWith_93 (by decide) ?_
              exact K16 _ word (by rw [if_pos c14]) (lv_sub hl [1, 2, 4, 5, 6, 7, 8, 9, 10] rfl)
      refine lv_icmp_ne (tgt := 33) hx hb dX2_wrongWith_26 (by decide) (fun c5 => ?_) (fun c5 => ?_)
      · refine lv_aload_n hx hb dX2_wrongWith_33 rfl (lv_at hl 5 rfl) ?_
        refine wl_getf (C := RX2) (T := TX2) (N := 13) (ci := 2) (v := .ref (a 2)) hx hb hts in_X2 hown hK hP 0 0 rfl rfl rfl 1 (by decide) lkf15 rfl rfl dX2_wrongWith_34 ?_
        refine lv_iload hx hb dX2_wrongWith_37 (lv_at hl 0 rfl) ?_
        refine wl_iald hx hb hK hP 0 2 rfl rfl i (by omega) (Nat.le_of_ble_eq_true rfl) dX2_wrongWith_39 ?_
        exact K7 _ (v 1 i) (by rw [if_neg c5]) (lv_sub hl [0, 1, 2, 3, 4, 5, 6, 7, 8] rfl)
      · refine lv_iload_n hx hb dX2_wrongWith_29 rfl (lv_at hl 8 rfl) ?_
        refine lv_goto (tgt := 40) hx hb dX2_wrongWith_30 (by decide) ?_
        exact K7 _ ol (by rw [if_pos c5]) (lv_sub hl [0, 1, 2, 3, 4, 5, 6, 7, 8] rfl)
