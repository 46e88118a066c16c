/-! WireLampsModel: a text -/
set_option maxHeartbeats 4000000 in
set_option maxRecDepth 100000 in
theorem m_X5_readText (l : Launch) (D : va_G) (cy : Nat → ClassId) (a : Nat → Nat) (u : Nat → Nat → Int32) (k : Nat) (sz : Nat) (hkk : u 6 1 = nI k) (hk2 : k ≤ 60) : Met l yX5_readText wsX5_readText ({ frames := 3, cells := 0, slots := 0, locals := 65 } : Room) (wl_ic D cy (fun _ => True) [moW cy a u] sz [.ref (a 0)]) (va_Qi (fun (r : Int32) (bs : List va_W) => ∃ (Z : Nat → Nat → Int32), r = (if (¬ q_wt (tv u) k = 0) then 1 else 0) ∧ bs = [moW cy a Z] ∧ q_RT u k Z) (wl_ib D [moW cy a u] sz) (va_A ([moW cy a u] : List va_W).flatten sz)) 0 0 (va_A ([moW cy a u] : List va_W).flatten sz) := by
  refine wl_ofI (cc := cX5_readText) (maxL := 2) (ret := (some .boolean)) (by decide) rfl (Nat.le_of_ble_eq_true rfl) ?_
  intro p e s m below meth c ls A hx hb hr hts hown hlocks hml hnm hsz hAe hP hK hD hX hA hS hl
  have hl : lv_has ls 2 [(0, .ref (a 0))] := hl
  have lkf113 := hts (.fieldLink RX5 113 "WireLampsModel" "length" "I") (by decide +kernel)
  have lkf116 := hts (.fieldLink RX5 116 "WireLampsModel" "spot" "I") (by decide +kernel)
  have lkf122 := hts (.fieldLink RX5 122 "WireLampsModel" "toldMany" "I") (by decide +kernel)
  have lkf132 := hts (.fieldLink RX5 132 "WireLampsModel" "hasGap" "Z") (by decide +kernel)
  have in_X5 : ∀ w ∈ u_ws RX5 TX5 13, w ∈ wsX5_readText := by decide +kernel
  refine lv_aload_n hx hb dX5_readText_0 rfl (lv_at hl 0 rfl) ?_
  refine lv_iconst (v := 0) hx hb dX5_readText_1 (by decide) ?_
  refine wl_putf (C := RX5) (T := TX5) (N := 13) (ci := 5) (v := .int 0) hx hb hts in_X5 tyX5 tyX5_ok nmX5 hown hK hP hD hS 0 0 rfl rfl rfl 12 (by decide) lkf116 rfl rfl rfl rfl (Nat.le_of_ble_eq_true rfl) dX5_readText_2 (fun H locs hP hD hS => ?_)
  have hP : va_P D vwCl ([moW cy a (su u 6 6 0)] : List va_W).flatten H := hP
  have hD : va_D A ([moW cy a (su u 6 6 0)] : List va_W).flatten := hD
  refine lv_aload_n hx hb dX5_readText_5 rfl (lv_at hl 0 rfl) ?_
  refine lv_iconst (v := 0) hx hb dX5_readText_6 (by decide) ?_
  refine wl_putf (C := RX5) (T := TX5) (N := 13) (ci := 5) (v := .int 0) hx hb hts in_X5 tyX5 tyX5_ok nmX5 hown hK hP hD hS 0 0 rfl rfl rfl 10 (by decide) lkf122 rfl rfl rfl rfl (Nat.le_of_ble_eq_true rfl) dX5_readText_7 (fun H locs hP hD hS => ?_)
  have hP : va_P D vwCl ([moW cy a (su (su u 6 6 0) 6 4 0)] : List va_W).flatten H := hP
  have hD : va_D A ([moW cy a (su (su u 6 6 0) 6 4 0)] : List va_W).flatten := hD
  refine lv_aload_n hx hb dX5_readText_10 rfl (lv_at hl 0 rfl) ?_
  refine wl_iV (As := []) (rest := []) (bsC := [moW cy a (su (su u 6 6 0) 6 4 0)]) (bsR := []) ⟨hx, hb, hml, hown, hts⟩ (m_X5_readWord l D cy a (su (su u 6 6 0) 6 4 0) (4 * 0) k 0 H.size rfl hkk (by omega) (by omega) rfl (by omega)) (cwV 0 hts gX5_readText_X5_readWord rfl rfl rfl (by decide +kernel) ⟨Nat.le_of_ble_eq_true rfl, Nat.le_of_ble_eq_true rfl⟩) wl_xT (fun _ _ _ => trivial) hK hP hD hS hA rfl rfl rfl rfl rfl hl.1 rfl (Nat.le_of_ble_eq_true rfl) dX5_readText_11 ⟨Nat.le_of_ble_eq_true rfl, Nat.le_of_ble_eq_true rfl⟩ (fun r1 bs2 H locs e3 _ _ hP hD hS => ?_)
  obtain ⟨er1, e3⟩ : r1 = (if (q_rc (su (su u 6 6 0) 6 4 0) k (4 * 0) = 3) then 1 else 0) ∧ bs2 = [moW cy a (q_rwo (su (su u 6 6 0) 6 4 0) k (4 * 0) 0)] := e3
  subst e3
  have hP : va_P D vwCl ([moW cy a (q_rwo (su (su u 6 6 0) 6 4 0) k (4 * 0) 0)] : List va_W).flatten H := hP
  have hD : va_D A ([moW cy a (q_rwo (su (su u 6 6 0) 6 4 0) k (4 * 0) 0)] : List va_W).flatten := hD
  refine lv_istore_n (lv' := [(1, .int r1), (0, .ref (a 0))]) hx hb dX5_readText_14 rfl hl (by decide) rfl (fun ls hl => ?_)
  suffices K4 : ∀ (n5 : Nat) (j : Nat) (x1 : Int32) (Y : Nat → Nat → Int32), 10 - j < n5 → (j < 10) → ((x1 = 1 ∧ q_RG u k j Y) ∨ (x1 = 0 ∧ q_RX u k Y)) → ∀ (ls : Array Slot) (H : Heap) (locs : List Loc), va_P D vwCl ([moW cy a Y] : List va_W).flatten H → va_D A ([moW cy a Y] : List va_W).flatten → va_S A s.heap H locs → lv_has ls 2 [(1, .int x1), (0, .ref (a 0))] → W p l e ({ frames := 3, cells := 0, slots := 0, locals := 65 } : Room) s m ([.ref (a 0)] : List Value).toArray below meth c H locs 0 0 (MQ below (va_Qi (fun (r : Int32) (bs : List va_W) => ∃ (Z : Nat → Nat → Int32), r = (if (¬ q_wt (tv u) k = 0) then 1 else 0) ∧ bs = [moW cy a Z] ∧ q_RT u k Z) (wl_ib D [moW cy a u] sz) (va_A ([moW cy a u] : List va_W).flatten sz)) ([.ref (a 0)] : List Value).toArray s 0 0 (va_A ([moW cy a u] : List va_W).flatten sz)) (F0 m 15 ls []) from K4 11 0 r1 (q_rwo (su (su u 6 6 0) 6 4 0) k (4 * 0) 0) (by omega) (by omega) (q_inv (Y := (su (su u 6 6 0) 6 4 0)) (j := 0) hk2 (by omega) ⟨q_r5 (q_r5 (fun _ _ => rfl)), ⟨rfl, rfl, rfl, rfl⟩, rfl, by omega, fun q hq => absurd hq (by omega)⟩ rfl (fun i hi => absurd hi (by omega)) (Or.inl rfl) er1) _ _ _ hP hD hS (lv_sub hl [0, 1] rfl)
  intro n5
  induction n5 with
  | zero => intro j x1 Y hm; exact absurd hm (Nat.not_lt_zero _)
  | succ n5 ih6 =>
    intro j x1 Y hm hj hI ls H locs hP hD hS hl
    refine lv_iload_n hx hb dX5_readText_15 rfl (lv_at hl 0 rfl) ?_
    refine lv_if_eq (tgt := 45) hx hb dX5_readText_16 (by decide) (fun hx1 => ?_) (fun hx1 => ?_)
    · have hX9 := (hI.resolve_left (fun q => absurd (hx1.symm.trans q.1) (by decide))).2
      subst hx1
      refine lv_aload_n hx hb dX5_readText_45 rfl (lv_at hl 1 rfl) ?_
      refine lv_iload_n hx hb dX5_readText_46 rfl (lv_at hl 0 rfl) ?_
      refine wl_if_eq (tgt := 63) hx hb 0 dX5_readText_47 (by decide) (by omega) (fun c7 => ?_) (fun c7 => absurd c7 (by decide))
      refine lv_iconst (v := 0) hx hb dX5_readText_63 (by decide) ?_
      refine wl_putf (C := RX5) (T := TX5) (N := 13) (ci := 5) (v := .int 0) hx hb hts in_X5 tyX5 tyX5_ok nmX5 hown hK hP hD hS 0 0 rfl rfl rfl 11 (by decide) lkf132 rfl rfl (rfl) (rfl) (Nat.le_of_ble_eq_true rfl) dX5_readText_64 (fun H locs hP hD hS => ?_)
      have hP : va_P D vwCl ([moW cy a (su Y 6 5 0)] : List va_W).flatten H := hP
      have hD : va_D A ([moW cy a (su Y 6 5 0)] : List va_W).flatten := hD
      refine lv_iload_n hx hb dX5_readText_67 rfl (lv_at hl 0 rfl) ?_
      refine wl_if_eq (tgt := 86) hx hb 0 dX5_readText_68 (by decide) (by omega) (fun c8 => ?_) (fun c8 => absurd c8 (by decide))
      refine lv_iconst (v := 0) hx hb dX5_readText_86 (by decide) ?_
      exact wl_Rz (bs := [moW cy a (su Y 6 5 0)]) (r := 0) (False) hx hb hr hlocks hAe hP hD hS (by rfl) (by exact ⟨_, (if_neg (fun q => q (q_end_x hX9).1)).symm, rfl, (q_end_x hX9).2⟩) dX5_readText_87
    · have hG : q_RG u k j Y := hI.elim (fun q => q.2) (fun q => absurd q.1 hx1)
      have hx11 : x1 = 1 := hI.elim (fun q => q.1) (fun q => absurd q.1 hx1)
      refine lv_aload_n hx hb dX5_readText_19 rfl (lv_at hl 1 rfl) ?_
      refine wl_getf (C := RX5) (T := TX5) (N := 13) (ci := 5) (v := .int (Y 6 4)) hx hb hts in_X5 hown hK hP 0 0 rfl rfl rfl 10 (by decide) lkf122 rfl rfl dX5_readText_20 ?_
      refine wl_top (y := nI (j + 1)) hG.2.2.1 ?_
      refine lv_bipush (v := 10) hx hb dX5_readText_23 (by decide) ?_
      refine wl_icmp_ge (tgt := 45) hx hb (j + 1) 10 dX5_readText_25 (by decide) (by omega) (by omega) (fun h10 => ?_) (fun h10 => ?_)
      · rw [(su_same (u := Y) hG.1.2.2.1).symm] at hP hD
        subst hx11
        refine lv_aload_n hx hb dX5_readText_45 rfl (lv_at hl 1 rfl) ?_
        refine lv_iload_n hx hb dX5_readText_46 rfl (lv_at hl 0 rfl) ?_
        refine wl_if_eq (tgt := 63) hx hb 1 dX5_readText_47 (by decide) (by omega) (fun c9 => absurd c9 (by decide)) (fun c9 => ?_)
        refine lv_aload_n hx hb dX5_readText_50 rfl (lv_at hl 1 rfl) ?_
        refine lv_bipush (v := 33) hx hb dX5_readText_51 (by decide) ?_
        refine wl_iV (As := [.int 33]) (rest := [.ref (a 0)]) (bsC := [moW cy a (su Y 6 6 (nI (4 * j + 3)))]) (bsR := []) ⟨hx, hb, hml, hown, hts⟩ (m_X5_takesSign l D cy a (su Y 6 6 (nI (4 * j + 3))) 33 (4 * j + 3) k H.size rfl (hG.1.2.1.2.1.trans hkk) (by omega) (by omega)) (cwV 1 hts gX5_readText_X5_takesSign rfl rfl rfl (by decide +kernel) ⟨Nat.le_of_ble_eq_true rfl, Nat.le_of_ble_eq_true rfl⟩) wl_xT (fun _ _ _ => trivial) hK hP hD hS hA rfl rfl rfl rfl rfl hl.1 rfl (Nat.le_of_ble_eq_true rfl) dX5_readText_53 ⟨Nat.le_of_ble_eq_true rfl, Nat.le_of_ble_eq_true rfl⟩ (fun r10 bs11 H locs e12 _ _ hP hD hS => ?_)
        obtain ⟨er10, e12⟩ : r10 = (if (¬ k ≤ (4 * j + 3) ∧ (su Y 6 6 (nI (4 * j + 3))) 4 (4 * j + 3) = 33) then 1 else 0) ∧ bs11 = [moW cy a (su (su Y 6 6 (nI (4 * j + 3))) 6 6 (nI (if (¬ k ≤ (4 * j + 3) ∧ (su Y 6 6 (nI (4 * j + 3))) 4 (4 * j + 3) = 33) then (4 * j + 3) + 1 else (4 * j + 3))))] := e12
        subst e12
        have hP : va_P D vwCl ([moW cy a (su (su Y 6 6 (nI (4 * j + 3))) 6 6 (nI (if (¬ k ≤ (4 * j + 3) ∧ (su Y 6 6 (nI (4 * j + 3))) 4 (4 * j + 3) = 33) then (4 * j + 3) + 1 else (4 * j + 3))))] : List va_W).flatten H := hP
        have hD : va_D A ([moW cy a (su (su Y 6 6 (nI (4 * j + 3))) 6 6 (nI (if (¬ k ≤ (4 * j + 3) ∧ (su Y 6 6 (nI (4 * j + 3))) 4 (4 * j + 3) = 33) then (4 * j + 3) + 1 else (4 * j + 3))))] : List va_W).flatten := hD
        refine wl_b_eq (tgt := 63) hx hb (¬ k ≤ (4 * j + 3) ∧ (su Y 6 6 (nI (4 * j + 3))) 4 (4 * j + 3) = 33) er10 dX5_readText_56 (by decide) (fun hb9 => ?_) (fun hb9 => ?_)
        · rw [if_neg hb9, su_su] at hP hD
          refine lv_iconst (v := 0) hx hb dX5_readText_63 (by decide) ?_
          refine wl_putf (C := RX5) (T := TX5) (N := 13) (ci := 5) (v := .int 0) hx hb hts in_X5 tyX5 tyX5_ok nmX5 hown hK hP hD hS 0 0 rfl rfl rfl 11 (by decide) lkf132 rfl rfl (rfl) (rfl) (Nat.le_of_ble_eq_true rfl) dX5_readText_64 (fun H locs hP hD hS => ?_)
          have hP : va_P D vwCl ([moW cy a (su (su Y 6 6 (nI (4 * j + 3))) 6 5 0)] : List va_W).flatten H := hP
          have hD : va_D A ([moW cy a (su (su Y 6 6 (nI (4 * j + 3))) 6 5 0)] : List va_W).flatten := hD
          refine lv_iload_n hx hb dX5_readText_67 rfl (lv_at hl 0 rfl) ?_
          refine wl_if_eq (tgt := 86) hx hb 1 dX5_readText_68 (by decide) (by omega) (fun c13 => absurd c13 (by decide)) (fun c13 => ?_)
          refine lv_aload_n hx hb dX5_readText_71 rfl (lv_at hl 1 rfl) ?_
          refine wl_getf (C := RX5) (T := TX5) (N := 13) (ci := 5) (v := .int ((su Y 6 6 (nI (4 * j + 3))) 6 6)) hx hb hts in_X5 hown hK hP 0 0 rfl rfl rfl 12 (by decide) lkf116 rfl rfl dX5_readText_72 ?_
          refine wl_top (y := nI (4 * j + 3)) rfl ?_
          refine lv_aload_n hx hb dX5_readText_75 rfl (lv_at hl 1 rfl) ?_
          refine wl_getf (C := RX5) (T := TX5) (N := 13) (ci := 5) (v := .int ((su Y 6 6 (nI (4 * j + 3))) 6 1)) hx hb hts in_X5 hown hK hP 0 0 rfl rfl rfl 6 (by decide) lkf113 rfl rfl dX5_readText_76 ?_
          refine wl_top (y := nI k) (hG.1.2.1.2.1.trans hkk) ?_
          refine wl_icmp_ne (tgt := 86) hx hb (4 * j + 3) k dX5_readText_79 (by decide) (by omega) (by omega) (fun hfin => ?_) (fun hfin => ?_)
          · refine lv_iconst (v := 0) hx hb dX5_readText_86 (by decide) ?_
            exact wl_Rz (bs := [moW cy a (su (su Y 6 6 (nI (4 * j + 3))) 6 5 0)]) (r := 0) (False) hx hb hr hlocks hAe hP hD hS (by rfl) (by have h4u : Y 4 = u 4 := hG.1.1 4 (by omega); have hB9 := q_end_n hk2 hG (by by_cases q0 : k ≤ 4 * j + 3; exact Or.inl q0; refine Or.inr ⟨fun q => hb9 ⟨q0, by show Y 4 (4 * j + 3) = 33; rw [h4u]; exact q⟩, ?_⟩; first | exact Or.inr h10 | exact Or.inl (fun q => hc ⟨q0, by show Y 4 (4 * j + 3) = 44; rw [h4u]; exact q⟩)); exact ⟨_, (if_neg (fun q => q (hB9.1.mpr (by omega)))).symm, rfl, hB9.2⟩) dX5_readText_87
          · refine lv_iconst (v := 1) hx hb dX5_readText_82 (by decide) ?_
            refine lv_goto (tgt := 87) hx hb dX5_readText_83 (by decide) ?_
            exact wl_Rz (bs := [moW cy a (su (su Y 6 6 (nI (4 * j + 3))) 6 5 0)]) (r := 1) (True) hx hb hr hlocks hAe hP hD hS (by rfl) (by have h4u : Y 4 = u 4 := hG.1.1 4 (by omega); have hB9 := q_end_n hk2 hG (by by_cases q0 : k ≤ 4 * j + 3; exact Or.inl q0; refine Or.inr ⟨fun q => hb9 ⟨q0, by show Y 4 (4 * j + 3) = 33; rw [h4u]; exact q⟩, ?_⟩; first | exact Or.inr h10 | exact Or.inl (fun q => hc ⟨q0, by show Y 4 (4 * j + 3) = 44; rw [h4u]; exact q⟩)); exact ⟨_, (if_pos (fun q => (hB9.1.mp q) (by omega))).symm, rfl, hB9.2⟩) dX5_readText_87
        · rw [if_pos hb9, su_su] at hP hD
          refine lv_iconst (v := 1) hx hb dX5_readText_59 (by decide) ?_
          refine lv_goto (tgt := 64) hx hb dX5_readText_60 (by decide) ?_
          refine wl_putf (C := RX5) (T := TX5) (N := 13) (ci := 5) (v := .int 1) hx hb hts in_X5 tyX5 tyX5_ok nmX5 hown hK hP hD hS 0 0 rfl rfl rfl 11 (by decide) lkf132 rfl rfl (rfl) (rfl) (Nat.le_of_ble_eq_true rfl) dX5_readText_64 (fun H locs hP hD hS => ?_)
          have hP : va_P D vwCl ([moW cy a (su (su Y 6 6 (nI (4 * j + 3 + 1))) 6 5 1)] : List va_W).flatten H := hP
          have hD : va_D A ([moW cy a (su (su Y 6 6 (nI (4 * j + 3 + 1))) 6 5 1)] : List va_W).flatten := hD
          refine lv_iload_n hx hb dX5_readText_67 rfl (lv_at hl 0 rfl) ?_
          refine wl_if_eq (tgt := 86) hx hb 1 dX5_readText_68 (by decide) (by omega) (fun c14 => absurd c14 (by decide)) (fun c14 => ?_)
          refine lv_aload_n hx hb dX5_readText_71 rfl (lv_at hl 1 rfl) ?_
          refine wl_getf (C := RX5) (T := TX5) (N := 13) (ci := 5) (v := .int ((su Y 6 6 (nI (4 * j + 3 + 1))) 6 6)) hx hb hts in_X5 hown hK hP 0 0 rfl rfl rfl 12 (by decide) lkf116 rfl rfl dX5_readText_72 ?_
          refine wl_top (y := nI (4 * j + 3 + 1)) rfl ?_
          refine lv_aload_n hx hb dX5_readText_75 rfl (lv_at hl 1 rfl) ?_
          refine wl_getf (C := RX5) (T := TX5) (N := 13) (ci := 5) (v := .int ((su Y 6 6 (nI (4 * j + 3 + 1))) 6 1)) hx hb hts in_X5 hown hK hP 0 0 rfl rfl rfl 6 (by decide) lkf113 rfl rfl dX5_readText_76 ?_
          refine wl_top (y := nI k) (hG.1.2.1.2.1.trans hkk) ?_
          refine wl_icmp_ne (tgt := 86) hx hb (4 * j + 3 + 1) k dX5_readText_79 (by decide) (by omega) (by omega) (fun hfin => ?_) (fun hfin => ?_)
          · refine lv_iconst (v := 0) hx hb dX5_readText_86 (by decide) ?_
            exact wl_Rz (bs := [moW cy a (su (su Y 6 6 (nI (4 * j + 3 + 1))) 6 5 1)]) (r := 0) (False) hx hb hr hlocks hAe hP hD hS (by rfl) (by have h4u : Y 4 = u 4 := hG.1.1 4 (by omega); have hB9 := q_end_b hk2 hG hb9.1 (by rw [← h4u]; exact hb9.2); exact ⟨_, (if_neg (fun q => q (hB9.1.mpr (by omega)))).symm, rfl, hB9.2⟩) dX5_readText_87
          · refine lv_iconst (v := 1) hx hb dX5_readText_82 (by decide) ?_
            refine lv_goto (tgt := 87) hx hb dX5_readText_83 (by decide) ?_
            exact wl_Rz (bs := [moW cy a (su (su Y 6 6 (nI (4 * j + 3 + 1))) 6 5 1)]) (r := 1) (True) hx hb hr hlocks hAe hP hD hS (by rfl) (by have h4u : Y 4 = u 4 := hG.1.1 4 (by omega); have hB9 := q_end_b hk2 hG hb9.1 (by rw [← h4u]; exact hb9.2); exact ⟨_, (if_pos (fun q => (hB9.1.mp q) (by omega))).symm, rfl, hB9.2⟩) dX5_readText_87
      · refine lv_aload_n hx hb dX5_readText_28 rfl (lv_at hl 1 rfl) ?_
        refine lv_bipush (v := 44) hx hb dX5_readText_29 (by decide) ?_
        refine wl_iV (As := [.int 44]) (rest := []) (bsC := [moW cy a Y]) (bsR := []) ⟨hx, hb, hml, hown, hts⟩ (m_X5_takesSign l D cy a Y 44 (4 * j + 3) k H.size hG.1.2.2.1 (hG.1.2.1.2.1.trans hkk) (by omega) (by omega)) (cwV 1 hts gX5_readText_X5_takesSign rfl rfl rfl (by decide +kernel) ⟨Nat.le_of_ble_eq_true rfl, Nat.le_of_ble_eq_true rfl⟩) wl_xT (fun _ _ _ => trivial) hK hP hD hS hA rfl rfl rfl rfl rfl hl.1 rfl (Nat.le_of_ble_eq_true rfl) dX5_readText_31 ⟨Nat.le_of_ble_eq_true rfl, Nat.le_of_ble_eq_true rfl⟩ (fun r15 bs16 H locs e17 _ _ hP hD hS => ?_)
        obtain ⟨er15, e17⟩ : r15 = (if (¬ k ≤ (4 * j + 3) ∧ Y 4 (4 * j + 3) = 44) then 1 else 0) ∧ bs16 = [moW cy a (su Y 6 6 (nI (if (¬ k ≤ (4 * j + 3) ∧ Y 4 (4 * j + 3) = 44) then (4 * j + 3) + 1 else (4 * j + 3))))] := e17
        subst e17
        have hP : va_P D vwCl ([moW cy a (su Y 6 6 (nI (if (¬ k ≤ (4 * j + 3) ∧ Y 4 (4 * j + 3) = 44) then (4 * j + 3) + 1 else (4 * j + 3))))] : List va_W).flatten H := hP
        have hD : va_D A ([moW cy a (su Y 6 6 (nI (if (¬ k ≤ (4 * j + 3) ∧ Y 4 (4 * j + 3) = 44) then (4 * j + 3) + 1 else (4 * j + 3))))] : List va_W).flatten := hD
        refine wl_b_eq (tgt := 45) hx hb (¬ k ≤ (4 * j + 3) ∧ Y 4 (4 * j + 3) = 44) er15 dX5_readText_34 (by decide) (fun hc => ?_) (fun hc => ?_)
        · rw [if_neg hc] at hP hD
          subst hx11
          refine lv_aload_n hx hb dX5_readText_45 rfl (lv_at hl 1 rfl) ?_
          refine lv_iload_n hx hb dX5_readText_46 rfl (lv_at hl 0 rfl) ?_
          refine wl_if_eq (tgt := 63) hx hb 1 dX5_readText_47 (by decide) (by omega) (fun c18 => absurd c18 (by decide)) (fun c18 => ?_)
          refine lv_aload_n hx hb dX5_readText_50 rfl (lv_at hl 1 rfl) ?_
          refine lv_bipush (v := 33) hx hb dX5_readText_51 (by decide) ?_
          refine wl_iV (As := [.int 33]) (rest := [.ref (a 0)]) (bsC := [moW cy a (su Y 6 6 (nI (4 * j + 3)))]) (bsR := []) ⟨hx, hb, hml, hown, hts⟩ (m_X5_takesSign l D cy a (su Y 6 6 (nI (4 * j + 3))) 33 (4 * j + 3) k H.size rfl (hG.1.2.1.2.1.trans hkk) (by omega) (by omega)) (cwV 1 hts gX5_readText_X5_takesSign rfl rfl rfl (by decide +kernel) ⟨Nat.le_of_ble_eq_true rfl, Nat.le_of_ble_eq_true rfl⟩) wl_xT (fun _ _ _ => trivial) hK hP hD hS hA rfl rfl rfl rfl rfl hl.1 rfl (Nat.le_of_ble_eq_true rfl) dX5_readText_53 ⟨Nat.le_of_ble_eq_true rfl, Nat.le_of_ble_eq_true rfl⟩ (fun r19 bs20 H locs e21 _ _ hP hD hS => ?_)
          obtain ⟨er19, e21⟩ : r19 = (if (¬ k ≤ (4 * j + 3) ∧ (su Y 6 6 (nI (4 * j + 3))) 4 (4 * j + 3) = 33) then 1 else 0) ∧ bs20 = [moW cy a (su (su Y 6 6 (nI (4 * j + 3))) 6 6 (nI (if (¬ k ≤ (4 * j + 3) ∧ (su Y 6 6 (nI (4 * j + 3))) 4 (4 * j + 3) = 33) then (4 * j + 3) + 1 else (4 * j + 3))))] := e21
          subst e21
          have hP : va_P D vwCl ([moW cy a (su (su Y 6 6 (nI (4 * j + 3))) 6 6 (nI (if (¬ k ≤ (4 * j + 3) ∧ (su Y 6 6 (nI (4 * j + 3))) 4 (4 * j + 3) = 33) then (4 * j + 3) + 1 else (4 * j + 3))))] : List va_W).flatten H := hP
          have hD : va_D A ([moW cy a (su (su Y 6 6 (nI (4 * j + 3))) 6 6 (nI (if (¬ k ≤ (4 * j + 3) ∧ (su Y 6 6 (nI (4 * j + 3))) 4 (4 * j + 3) = 33) then (4 * j + 3) + 1 else (4 * j + 3))))] : List va_W).flatten := hD
          refine wl_b_eq (tgt := 63) hx hb (¬ k ≤ (4 * j + 3) ∧ (su Y 6 6 (nI (4 * j + 3))) 4 (4 * j + 3) = 33) er19 dX5_readText_56 (by decide) (fun hb9 => ?_) (fun hb9 => ?_)
          · rw [if_neg hb9, su_su] at hP hD
            refine lv_iconst (v := 0) hx hb dX5_readText_63 (by decide) ?_
            refine wl_putf (C := RX5) (T := TX5) (N := 13) (ci := 5) (v := .int 0) hx hb hts in_X5 tyX5 tyX5_ok nmX5 hown hK hP hD hS 0 0 rfl rfl rfl 11 (by decide) lkf132 rfl rfl (rfl) (rfl) (Nat.le_of_ble_eq_true rfl) dX5_readText_64 (fun H locs hP hD hS => ?_)
            have hP : va_P D vwCl ([moW cy a (su (su Y 6 6 (nI (4 * j + 3))) 6 5 0)] : List va_W).flatten H := hP
            have hD : va_D A ([moW cy a (su (su Y 6 6 (nI (4 * j + 3))) 6 5 0)] : List va_W).flatten := hD
            refine lv_iload_n hx hb dX5_readText_67 rfl (lv_at hl 0 rfl) ?_
            refine wl_if_eq (tgt := 86) hx hb 1 dX5_readText_68 (by decide) (by omega) (fun c22 => absurd c22 (by decide)) (fun c22 => ?_)
            refine lv_aload_n hx hb dX5_readText_71 rfl (lv_at hl 1 rfl) ?_
            refine wl_getf (C := RX5) (T := TX5) (N := 13) (ci := 5) (v := .int ((su Y 6 6 (nI (4 * j + 3))) 6 6)) hx hb hts in_X5 hown hK hP 0 0 rfl rfl rfl 12 (by decide) lkf116 rfl rfl dX5_readText_72 ?_
            refine wl_top (y := nI (4 * j + 3)) rfl ?_
            refine lv_aload_n hx hb dX5_readText_75 rfl (lv_at hl 1 rfl) ?_
            refine wl_getf (C := RX5) (T := TX5) (N := 13) (ci := 5) (v := .int ((su Y 6 6 (nI (4 * j + 3))) 6 1)) hx hb hts in_X5 hown hK hP 0 0 rfl rfl rfl 6 (by decide) lkf113 rfl rfl dX5_readText_76 ?_
            refine wl_top (y := nI k) (hG.1.2.1.2.1.trans hkk) ?_
            refine wl_icmp_ne (tgt := 86) hx hb (4 * j + 3) k dX5_readText_79 (by decide) (by omega) (by omega) (fun hfin => ?_) (fun hfin => ?_)
            · refine lv_iconst (v := 0) hx hb dX5_readText_86 (by decide) ?_
              exact wl_Rz (bs := [moW cy a (su (su Y 6 6 (nI (4 * j + 3))) 6 5 0)]) (r := 0) (False) hx hb hr hlocks hAe hP hD hS (by rfl) (by have h4u : Y 4 = u 4 := hG.1.1 4 (by omega); have hB9 := q_end_n hk2 hG (by by_cases q0 : k ≤ 4 * j + 3; exact Or.inl q0; refine Or.inr ⟨fun q => hb9 ⟨q0, by show Y 4 (4 * j + 3) = 33; rw [h4u]; exact q⟩, ?_⟩; first | exact Or.inr h10 | exact Or.inl (fun q => hc ⟨q0, by show Y 4 (4 * j + 3) = 44; rw [h4u]; exact q⟩)); exact ⟨_, (if_neg (fun q => q (hB9.1.mpr (by omega)))).symm, rfl, hB9.2⟩) dX5_readText_87
            · refine lv_iconst (v := 1) hx hb dX5_readText_82 (by decide) ?_
              refine lv_goto (tgt := 87) hx hb dX5_readText_83 (by decide) ?_
              exact wl_Rz (bs := [moW cy a (su (su Y 6 6 (nI (4 * j + 3))) 6 5 0)]) (r := 1) (True) hx hb hr hlocks hAe hP hD hS (by rfl) (by have h4u : Y 4 = u 4 := hG.1.1 4 (by omega); have hB9 := q_end_n hk2 hG (by by_cases q0 : k ≤ 4 * j + 3; exact Or.inl q0; refine Or.inr ⟨fun q => hb9 ⟨q0, by show Y 4 (4 * j + 3) = 33; rw [h4u]; exact q⟩, ?_⟩; first | exact Or.inr h10 | exact Or.inl (fun q => hc ⟨q0, by show Y 4 (4 * j + 3) = 44; rw [h4u]; exact q⟩)); exact ⟨_, (if_pos (fun q => (hB9.1.mp q) (by omega))).symm, rfl, hB9.2⟩) dX5_readText_87
          · rw [if_pos hb9, su_su] at hP hD
            refine lv_iconst (v := 1) hx hb dX5_readText_59 (by decide) ?_
            refine lv_goto (tgt := 64) hx hb dX5_readText_60 (by decide) ?_
            refine wl_putf (C := RX5) (T := TX5) (N := 13) (ci := 5) (v := .int 1) hx hb hts in_X5 tyX5 tyX5_ok nmX5 hown hK hP hD hS 0 0 rfl rfl rfl 11 (by decide) lkf132 rfl rfl (rfl) (rfl) (Nat.le_of_ble_eq_true rfl) dX5_readText_64 (fun H locs hP hD hS => ?_)
            have hP : va_P D vwCl ([moW cy a (su (su Y 6 6 (nI (4 * j + 3 + 1))) 6 5 1)] : List va_W).flatten H := hP
            have hD : va_D A ([moW cy a (su (su Y 6 6 (nI (4 * j + 3 + 1))) 6 5 1)] : List va_W).flatten := hD
            refine lv_iload_n hx hb dX5_readText_67 rfl (lv_at hl 0 rfl) ?_
            refine wl_if_eq (tgt := 86) hx hb 1 dX5_readText_68 (by decide) (by omega) (fun c23 => absurd c23 (by decide)) (fun c23 => ?_)
            refine lv_aload_n hx hb dX5_readText_71 rfl (lv_at hl 1 rfl) ?_
            refine wl_getf (C := RX5) (T := TX5) (N := 13) (ci := 5) (v := .int ((su Y 6 6 (nI (4 * j + 3 + 1))) 6 6)) hx hb hts in_X5 hown hK hP 0 0 rfl rfl rfl 12 (by decide) lkf116 rfl rfl dX5_readText_72 ?_
            refine wl_top (y := nI (4 * j + 3 + 1)) rfl ?_
            refine lv_aload_n hx hb dX5_readText_75 rfl (lv_at hl 1 rfl) ?_
            refine wl_getf (C := RX5) (T := TX5) (N := 13) (ci := 5) (v := .int ((su Y 6 6 (nI (4 * j + 3 + 1))) 6 1)) hx hb hts in_X5 hown hK hP 0 0 rfl rfl rfl 6 (by decide) lkf113 rfl rfl dX5_readText_76 ?_
            refine wl_top (y := nI k) (hG.1.2.1.2.1.trans hkk) ?_
            refine wl_icmp_ne (tgt := 86) hx hb (4 * j + 3 + 1) k dX5_readText_79 (by decide) (by omega) (by omega) (fun hfin => ?_) (fun hfin => ?_)
            · refine lv_iconst (v := 0) hx hb dX5_readText_86 (by decide) ?_
              exact wl_Rz (bs := [moW cy a (su (su Y 6 6 (nI (4 * j + 3 + 1))) 6 5 1)]) (r := 0) (False) hx hb hr hlocks hAe hP hD hS (by rfl) (by have h4u : Y 4 = u 4 := hG.1.1 4 (by omega); have hB9 := q_end_b hk2 hG hb9.1 (by rw [← h4u]; exact hb9.2); exact ⟨_, (if_neg (fun q => q (hB9.1.mpr (by omega)))).symm, rfl, hB9.2⟩) dX5_readText_87
            · refine lv_iconst (v := 1) hx hb dX5_readText_82 (by decide) ?_
              refine lv_goto (tgt := 87) hx hb dX5_readText_83 (by decide) ?_
              exact wl_Rz (bs := [moW cy a (su (su Y 6 6 (nI (4 * j + 3 + 1))) 6 5 1)]) (r := 1) (True) hx hb hr hlocks hAe hP hD hS (by rfl) (by have h4u : Y 4 = u 4 := hG.1.1 4 (by omega); have hB9 := q_end_b hk2 hG hb9.1 (by rw [← h4u]; exact hb9.2); exact ⟨_, (if_pos (fun q => (hB9.1.mp q) (by omega))).symm, rfl, hB9.2⟩) dX5_readText_87
        · rw [if_pos hc] at hP hD
          have hC := q_comma hk2 hG h10 hc.1 (by rw [← hG.1.1 4 (by omega)]; exact hc.2)
          refine lv_aload_n hx hb dX5_readText_37 rfl (lv_at hl 1 rfl) ?_
          refine wl_iV (As := []) (rest := []) (bsC := [moW cy a (su Y 6 6 (nI (4 * j + 3 + 1)))]) (bsR := []) ⟨hx, hb, hml, hown, hts⟩ (m_X5_readWord l D cy a (su Y 6 6 (nI (4 * j + 3 + 1))) (4 * (j + 1)) k (j + 1) H.size hC.1.2.2.1 (hG.1.2.1.2.1.trans hkk) (by omega) (by omega) hG.2.2.1 (by omega)) (cwV 0 hts gX5_readText_X5_readWord rfl rfl rfl (by decide +kernel) ⟨Nat.le_of_ble_eq_true rfl, Nat.le_of_ble_eq_true rfl⟩) wl_xT (fun _ _ _ => trivial) hK hP hD hS hA rfl rfl rfl rfl rfl hl.1 rfl (Nat.le_of_ble_eq_true rfl) dX5_readText_38 ⟨Nat.le_of_ble_eq_true rfl, Nat.le_of_ble_eq_true rfl⟩ (fun r24 bs25 H locs e26 _ _ hP hD hS => ?_)
          obtain ⟨er24, e26⟩ : r24 = (if (q_rc (su Y 6 6 (nI (4 * j + 3 + 1))) k (4 * (j + 1)) = 3) then 1 else 0) ∧ bs25 = [moW cy a (q_rwo (su Y 6 6 (nI (4 * j + 3 + 1))) k (4 * (j + 1)) (j + 1))] := e26
          subst e26
          have hP : va_P D vwCl ([moW cy a (q_rwo (su Y 6 6 (nI (4 * j + 3 + 1))) k (4 * (j + 1)) (j + 1))] : List va_W).flatten H := hP
          have hD : va_D A ([moW cy a (q_rwo (su Y 6 6 (nI (4 * j + 3 + 1))) k (4 * (j + 1)) (j + 1))] : List va_W).flatten := hD
          refine lv_istore_n (lv' := [(1, .int r24), (0, .ref (a 0))]) hx hb dX5_readText_41 rfl hl (by decide) rfl (fun ls hl => ?_)
          refine lv_goto (tgt := 15) hx hb dX5_readText_42 (by decide) ?_
          exact ih6 (j + 1) r24 (q_rwo (su Y 6 6 (nI (4 * j + 3 + 1))) k (4 * (j + 1)) (j + 1)) (by omega) (by omega) (by exact q_inv hk2 (by omega) hC.1 hG.2.2.1 (fun i hi => hG.2.2.2.1 i (by omega)) hC.2 er24) _ _ _ hP hD hS (lv_sub hl [0, 1] rfl)
