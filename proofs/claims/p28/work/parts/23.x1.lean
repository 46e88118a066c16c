/-! Journey -/
set_option maxHeartbeats 4000000 in
set_option maxRecDepth 100000 in
theorem m_X1_passWire (l : Launch) (D : va_G) (cy : Nat → ClassId) (b : Nat → Nat) (w : Nat → Nat → Int32) (x : Int32) (f n : Nat) (sz : Nat) (hf : w 3 1 = nI f) (he : w 3 2 = nI n) (hfn : f ≤ n) (hn : n ≤ 120) : Met l yX1_passWire wsX1_passWire ({ frames := 1, cells := 0, slots := 0, locals := 21 } : Room) (wl_ic D cy (fun _ => True) [joW cy b w] sz [.ref (b 0), .int x]) (va_Qv (fun (bs : List va_W) => bs = [joW cy b (sf w 2 (q_pm (fun y => q_sh y x) (w 2) f n))]) (wl_ib D [joW cy b w] sz) (va_A ([joW cy b w] : List va_W).flatten sz)) 0 0 (va_A ([joW cy b w] : List va_W).flatten sz) := by
  refine wl_ofI (cc := cX1_passWire) (maxL := 3) (ret := none) (by decide) rfl (Nat.le_of_ble_eq_true rfl) ?_
  intro p e s m below meth c ls A hx hb hr hts hown hlocks hml hnm hsz hAe hP hK hD hX hA hS hl
  have hl : lv_has ls 3 [(0, .ref (b 0)), (1, .int x)] := hl
  have lkf18 := hts (.fieldLink RX1 18 "WireLamps$Journey" "pulses" "[I") (by decide +kernel)
  have lkf30 := hts (.fieldLink RX1 30 "WireLamps$Journey" "first" "I") (by decide +kernel)
  have lkf37 := hts (.fieldLink RX1 37 "WireLamps$Journey" "end" "I") (by decide +kernel)
  have in_X1 : ∀ w ∈ u_ws RX1 TX1 6, w ∈ wsX1_passWire := by decide +kernel
  refine lv_aload_n hx hb dX1_passWire_0 rfl (lv_at hl 0 rfl) ?_
  refine wl_getf (C := RX1) (T := TX1) (N := 6) (ci := 1) (v := .int (w 3 1)) hx hb hts in_X1 hown hK hP 0 0 rfl rfl rfl 4 (by decide) lkf30 rfl rfl dX1_passWire_1 ?_
  refine wl_top (y := nI f) hf ?_
  refine lv_istore_n (lv' := [(2, .int (nI f)), (0, .ref (b 0)), (1, .int x)]) hx hb dX1_passWire_4 rfl hl (by decide) rfl (fun ls hl => ?_)
  suffices K1 : ∀ (n2 : Nat) (i : Nat) (Y : Nat → Nat → Int32), n - i < n2 → (f ≤ i ∧ i ≤ n) → (Y = sf w 2 (q_pm (fun y => q_sh y x) (w 2) f i)) → ∀ (ls : Array Slot) (H : Heap) (locs : List Loc), va_P D vwCl ([joW cy b Y] : List va_W).flatten H → va_D A ([joW cy b Y] : List va_W).flatten → va_S A s.heap H locs → lv_has ls 3 [(2, .int (nI i)), (0, .ref (b 0)), (1, .int x)] → W p l e ({ frames := 1, cells := 0, slots := 0, locals := 21 } : Room) s m ([.ref (b 0), .int x] : List Value).toArray below meth c H locs 0 0 (MQ below (va_Qv (fun (bs : List va_W) => bs = [joW cy b (sf w 2 (q_pm (fun y => q_sh y x) (w 2) f n))]) (wl_ib D [joW cy b w] sz) (va_A ([joW cy b w] : List va_W).flatten sz)) ([.ref (b 0), .int x] : List Value).toArray s 0 0 (va_A ([joW cy b w] : List va_W).flatten sz)) (F0 m 5 ls []) from K1 (n + 1) f w (by omega) (by omega) q_pm_init _ _ _ hP hD hS (lv_sub hl [0, 1, 2] rfl)
  intro n2
  induction n2 with
  | zero => intro i Y hm; exact absurd hm (Nat.not_lt_zero _)
  | succ n2 ih3 =>
    intro i Y hm hi hW ls H locs hP hD hS hl
    refine lv_iload_n hx hb dX1_passWire_5 rfl (lv_at hl 0 rfl) ?_
    refine wl_if_lt (tgt := 45) hx hb i dX1_passWire_6 (by decide) (by omega) ?_
    refine lv_iload_n hx hb dX1_passWire_9 rfl (lv_at hl 0 rfl) ?_
    refine lv_aload_n hx hb dX1_passWire_10 rfl (lv_at hl 1 rfl) ?_
    refine wl_getf (C := RX1) (T := TX1) (N := 6) (ci := 1) (v := .int (Y 3 2)) hx hb hts in_X1 hown hK hP 0 0 rfl rfl rfl 5 (by decide) lkf37 rfl rfl dX1_passWire_11 ?_
    refine wl_top (y := nI n) (by rw [hW]; exact he) ?_
    refine wl_icmp_ge (tgt := 45) hx hb i n dX1_passWire_14 (by decide) (by omega) (by omega) (fun c5 => ?_) (fun c5 => ?_)
    · exact wl_Rv (bs := [joW cy b Y]) hx hb hr hlocks hAe hP hD hS (by obtain rfl : i = n := (by omega); rw [hW]) dX1_passWire_45
    · refine lv_iload_n hx hb dX1_passWire_17 rfl (lv_at hl 0 rfl) ?_
      refine lv_bipush (v := 120) hx hb dX1_passWire_18 (by decide) ?_
      refine wl_icmp_ge (tgt := 45) hx hb i 120 dX1_passWire_20 (by decide) (by omega) (by omega) (fun c6 => absurd c6 (by omega)) (fun c6 => ?_)
      refine lv_aload_n hx hb dX1_passWire_23 rfl (lv_at hl 1 rfl) ?_
      refine wl_getf (C := RX1) (T := TX1) (N := 6) (ci := 1) (v := .ref (b 3)) hx hb hts in_X1 hown hK hP 0 0 rfl rfl rfl 3 (by decide) lkf18 rfl rfl dX1_passWire_24 ?_
      refine lv_iload_n hx hb dX1_passWire_27 rfl (lv_at hl 0 rfl) ?_
      refine lv_aload_n hx hb dX1_passWire_28 rfl (lv_at hl 1 rfl) ?_
      refine wl_getf (C := RX1) (T := TX1) (N := 6) (ci := 1) (v := .ref (b 3)) hx hb hts in_X1 hown hK hP 0 0 rfl rfl rfl 3 (by decide) lkf18 rfl rfl dX1_passWire_29 ?_
      refine lv_iload_n hx hb dX1_passWire_32 rfl (lv_at hl 0 rfl) ?_
      refine wl_iald hx hb hK hP 0 3 rfl rfl i (by omega) (Nat.le_of_ble_eq_true rfl) dX1_passWire_33 ?_
      refine lv_iload_n hx hb dX1_passWire_34 rfl (lv_at hl 2 rfl) ?_
      refine wl_pS (As := [.int (Y 2 i), .int x]) (rest := [.int (nI i), .ref (b 3)]) ⟨hx, hb, hml, hown, hts⟩ (m_X2_shortened l D cy (Y 2 i) x ) (va_cwS 2 hts gX1_passWire_X2_shortened rfl rfl rfl (by decide +kernel) ⟨Nat.le_of_ble_eq_true rfl, Nat.le_of_ble_eq_true rfl⟩) hK hP [] rfl rfl hl.1 rfl (Nat.le_of_ble_eq_true rfl) dX1_passWire_35 ⟨Nat.le_of_ble_eq_true rfl, Nat.le_of_ble_eq_true rfl⟩ (fun r7 er7 => ?_)
      have er7 : r7 = q_sh (Y 2 i) x := er7
      subst er7
      refine wl_iast hx hb hK hP hD hS 0 3 rfl rfl i (by omega) (Nat.le_of_ble_eq_true rfl) dX1_passWire_38 (fun H locs hP hD hS => ?_)
      have hP : va_P D vwCl ([joW cy b (su Y 2 i (q_sh (Y 2 i) x))] : List va_W).flatten H := hP
      have hD : va_D A ([joW cy b (su Y 2 i (q_sh (Y 2 i) x))] : List va_W).flatten := hD
      refine lv_iinc (v := nI (i + 1)) (lv' := [(2, .int (nI (i + 1))), (0, .ref (b 0)), (1, .int x)]) hx hb dX1_passWire_39 hl (k := 0) rfl (by rw [wl_inc]) (by decide) rfl (fun ls hl => ?_)
      refine lv_goto (tgt := 5) hx hb dX1_passWire_42 (by decide) ?_
      exact ih3 (i + 1) (su Y 2 i (q_sh (Y 2 i) x)) (by omega) (by omega) (by rw [hW]; exact q_pm_step (g := fun y => q_sh y x) hi.1) _ _ _ hP hD hS (lv_sub hl [0, 1, 2] rfl)
set_option maxHeartbeats 4000000 in
set_option maxRecDepth 100000 in
theorem m_X1_takeWord (l : Launch) (D : va_G) (cy : Nat → ClassId) (b : Nat → Nat) (w : Nat → Nat → Int32) (a : Nat → Nat) (v : Nat → Nat → Int32) (f t : Nat) (sz : Nat) (hf : w 3 1 = nI f) (hn : f + 12 ≤ 120) (ht : w 3 0 = nI t) (ht2 : t ≤ 1000) : Met l yX1_takeWord wsX1_takeWord ({ frames := 1, cells := 0, slots := 0, locals := 21 } : Room) (wl_ic D cy (fun _ => True) [joW cy b w, stW cy a v] sz [.ref (b 0), .ref (a 0)]) (va_Qi (fun (r : Int32) (bs : List va_W) => r = q_wd (fun z => q_rd v (w 2 (f + z))) 12 ∧ bs = [joW cy b (su (su w 3 1 (nI (f + 12))) 3 0 (nI (t + 12))), stW cy a v]) (wl_ib D [joW cy b w, stW cy a v] sz) (va_A ([joW cy b w, stW cy a v] : List va_W).flatten sz)) 0 0 (va_A ([joW cy b w, stW cy a v] : List va_W).flatten sz) := by
  refine wl_ofI (cc := cX1_takeWord) (maxL := 5) (ret := (some .int)) (by decide) rfl (Nat.le_of_ble_eq_true rfl) ?_
  intro p e s m below meth c ls A hx hb hr hts hown hlocks hml hnm hsz hAe hP hK hD hX hA hS hl
  have hl : lv_has ls 5 [(0, .ref (b 0)), (1, .ref (a 0))] := hl
  have lkf18 := hts (.fieldLink RX1 18 "WireLamps$Journey" "pulses" "[I") (by decide +kernel)
  have lkf30 := hts (.fieldLink RX1 30 "WireLamps$Journey" "first" "I") (by decide +kernel)
  have lkf40 := hts (.fieldLink RX1 40 "WireLamps$Journey" "taken" "I") (by decide +kernel)
  have in_X1 : ∀ w ∈ u_ws RX1 TX1 6, w ∈ wsX1_takeWord := by decide +kernel
  refine lv_iconst (v := 0) hx hb dX1_takeWord_0 (by decide) ?_
  refine lv_istore_n (lv' := [(2, .int 0), (0, .ref (b 0)), (1, .ref (a 0))]) hx hb dX1_takeWord_1 rfl hl (by decide) rfl (fun ls hl => ?_)
  refine lv_aload_n hx hb dX1_takeWord_2 rfl (lv_at hl 1 rfl) ?_
  refine wl_getf (C := RX1) (T := TX1) (N := 6) (ci := 1) (v := .int (w 3 1)) hx hb hts in_X1 hown hK hP 0 0 rfl rfl rfl 4 (by decide) lkf30 rfl rfl dX1_takeWord_3 ?_
  refine wl_top (y := nI f) hf ?_
  refine lv_bipush (v := 12) hx hb dX1_takeWord_6 (by decide) ?_
  refine lv_iadd hx hb dX1_takeWord_8 ?_
  refine wl_top (y := nI (f + 12)) (nI_add f 12) ?_
  refine lv_istore_n (lv' := [(3, .int (nI (f + 12))), (2, .int 0), (0, .ref (b 0)), (1, .ref (a 0))]) hx hb dX1_takeWord_9 rfl hl (by decide) rfl (fun ls hl => ?_)
  refine lv_aload_n hx hb dX1_takeWord_10 rfl (lv_at hl 2 rfl) ?_
  refine wl_getf (C := RX1) (T := TX1) (N := 6) (ci := 1) (v := .int (w 3 1)) hx hb hts in_X1 hown hK hP 0 0 rfl rfl rfl 4 (by decide) lkf30 rfl rfl dX1_takeWord_11 ?_
  refine wl_top (y := nI f) hf ?_
  refine lv_istore (lv' := [(4, .int (nI f)), (3, .int (nI (f + 12))), (2, .int 0), (0, .ref (b 0)), (1, .ref (a 0))]) hx hb dX1_takeWord_14 hl (by decide) rfl (fun ls hl => ?_)
  suffices K1 : ∀ (n2 : Nat) (d : Nat), 12 - d < n2 → (d ≤ 12) → ∀ (ls : Array Slot), lv_has ls 5 [(4, .int (nI (f + d))), (3, .int (nI (f + 12))), (2, .int (q_wd (fun z => q_rd v (w 2 (f + z))) d)), (0, .ref (b 0)), (1, .ref (a 0))] → W p l e ({ frames := 1, cells := 0, slots := 0, locals := 21 } : Room) s m ([.ref (b 0), .ref (a 0)] : List Value).toArray below meth c s.heap [] 0 0 (MQ below (va_Qi (fun (r : Int32) (bs : List va_W) => r = q_wd (fun z => q_rd v (w 2 (f + z))) 12 ∧ bs = [joW cy b (su (su w 3 1 (nI (f + 12))) 3 0 (nI (t + 12))), stW cy a v]) (wl_ib D [joW cy b w, stW cy a v] sz) (va_A ([joW cy b w, stW cy a v] : List va_W).flatten sz)) ([.ref (b 0), .ref (a 0)] : List Value).toArray s 0 0 (va_A ([joW cy b w, stW cy a v] : List va_W).flatten sz)) (F0 m 16 ls []) from K1 13 0 (by omega) (by omega) _  (lv_sub hl [0, 1, 2, 3, 4] rfl)
  intro n2
  induction n2 with
  | zero => intro d hm; exact absurd hm (Nat.not_lt_zero _)
  | succ n2 ih3 =>
    intro d hm hd ls  hl
    refine lv_iload hx hb dX1_takeWord_16 (lv_at hl 0 rfl) ?_
    refine wl_if_lt (tgt := 64) hx hb (f + d) dX1_takeWord_18 (by decide) (by omega) ?_
    refine lv_iload hx hb dX1_takeWord_21 (lv_at hl 0 rfl) ?_
    refine lv_iload_n hx hb dX1_takeWord_23 rfl (lv_at hl 1 rfl) ?_
    refine wl_icmp_ge (tgt := 64) hx hb (f + d) (f + 12) dX1_takeWord_24 (by decide) (by omega) (by omega) (fun c5 => ?_) (fun c5 => ?_)
    · obtain rfl : d = 12 := by omega
      refine lv_aload_n hx hb dX1_takeWord_64 rfl (lv_at hl 3 rfl) ?_
      refine lv_iload_n hx hb dX1_takeWord_65 rfl (lv_at hl 1 rfl) ?_
      refine wl_putf (C := RX1) (T := TX1) (N := 6) (ci := 1) (v := .int (nI (f + 12))) hx hb hts in_X1 tyX1 tyX1_ok nmX1 hown hK hP hD hS 0 0 rfl rfl rfl 4 (by decide) lkf30 rfl rfl rfl rfl (Nat.le_of_ble_eq_true rfl) dX1_takeWord_66 (fun H locs hP hD hS => ?_)
      have hP : va_P D vwCl ([joW cy b (su w 3 1 (nI (f + 12))), stW cy a v] : List va_W).flatten H := hP
      have hD : va_D A ([joW cy b (su w 3 1 (nI (f + 12))), stW cy a v] : List va_W).flatten := hD
      refine lv_aload_n hx hb dX1_takeWord_69 rfl (lv_at hl 3 rfl) ?_
      refine lv_dup hx hb dX1_takeWord_70 rfl ?_
      refine wl_getf (C := RX1) (T := TX1) (N := 6) (ci := 1) (v := .int (w 3 0)) hx hb hts in_X1 hown hK hP 0 0 rfl rfl rfl 2 (by decide) lkf40 rfl rfl dX1_takeWord_71 ?_
      refine wl_top (y := nI t) ht ?_
      refine lv_bipush (v := 12) hx hb dX1_takeWord_74 (by decide) ?_
      refine lv_iadd hx hb dX1_takeWord_76 ?_
      refine wl_top (y := nI (t + 12)) (nI_add t 12) ?_
      refine wl_putf (C := RX1) (T := TX1) (N := 6) (ci := 1) (v := .int (nI (t + 12))) hx hb hts in_X1 tyX1 tyX1_ok nmX1 hown hK hP hD hS 0 0 rfl rfl rfl 2 (by decide) lkf40 rfl rfl rfl rfl (Nat.le_of_ble_eq_true rfl) dX1_takeWord_77 (fun H locs hP hD hS => ?_)
      have hP : va_P D vwCl ([joW cy b (su (su w 3 1 (nI (f + 12))) 3 0 (nI (t + 12))), stW cy a v] : List va_W).flatten H := hP
      have hD : va_D A ([joW cy b (su (su w 3 1 (nI (f + 12))) 3 0 (nI (t + 12))), stW cy a v] : List va_W).flatten := hD
      refine lv_iload_n hx hb dX1_takeWord_80 rfl (lv_at hl 2 rfl) ?_
      exact wl_Ri (bs := [joW cy b (su (su w 3 1 (nI (f + 12))) 3 0 (nI (t + 12))), stW cy a v]) (r := (q_wd (fun z => q_rd v (w 2 (f + z))) 12)) hx hb hr hlocks hAe hP hD hS (by exact ⟨rfl, rfl⟩) dX1_takeWord_81
    · refine lv_iload hx hb dX1_takeWord_27 (lv_at hl 0 rfl) ?_
      refine lv_bipush (v := 120) hx hb dX1_takeWord_29 (by decide) ?_
      refine wl_icmp_ge (tgt := 64) hx hb (f + d) 120 dX1_takeWord_31 (by decide) (by omega) (by omega) (fun c6 => absurd c6 (by omega)) (fun c6 => ?_)
      refine lv_iconst (v := 2) hx hb dX1_takeWord_34 (by decide) ?_
      refine lv_iload_n hx hb dX1_takeWord_35 rfl (lv_at hl 2 rfl) ?_
      refine lv_imul hx hb dX1_takeWord_36 ?_
      refine lv_aload_n hx hb dX1_takeWord_37 rfl (lv_at hl 4 rfl) ?_
      refine lv_aload_n hx hb dX1_takeWord_38 rfl (lv_at hl 3 rfl) ?_
      refine wl_getf (C := RX1) (T := TX1) (N := 6) (ci := 1) (v := .ref (b 3)) hx hb hts in_X1 hown hK hP 0 0 rfl rfl rfl 3 (by decide) lkf18 rfl rfl dX1_takeWord_39 ?_
      refine lv_iload hx hb dX1_takeWord_42 (lv_at hl 0 rfl) ?_
      refine wl_iald hx hb hK hP 0 3 rfl rfl (f + d) (by omega) (Nat.le_of_ble_eq_true rfl) dX1_takeWord_44 ?_
      refine wl_pV (As := [.int (w 2 (f + d))]) (rest := [.int (2 * (q_wd (fun z => q_rd v (w 2 (f + z))) d))]) ⟨hx, hb, hml, hown, hts⟩ (m_X2_isReadAs1 l D cy a v (w 2 (f + d)) ) (cwV 1 hts gX1_takeWord_X2_isReadAs1 rfl rfl rfl (by decide +kernel) ⟨Nat.le_of_ble_eq_true rfl, Nat.le_of_ble_eq_true rfl⟩) hK hP [1] rfl rfl rfl rfl rfl rfl hl.1 rfl (Nat.le_of_ble_eq_true rfl) dX1_takeWord_45 ⟨Nat.le_of_ble_eq_true rfl, Nat.le_of_ble_eq_true rfl⟩ (fun r7 er7 => ?_)
      have er7 : r7 = if (¬ (w 2 (f + d)) < v 5 0) then 1 else 0 := er7
      have K10 : ∀ (ls : Array Slot) (v9 : Int32), v9 = (if (¬ (w 2 (f + d)) < v 5 0) then 1 else 0) → lv_has ls 5 [(4, .int (nI (f + d))), (3, .int (nI (f + 12))), (0, .ref (b 0)), (1, .ref (a 0))] → W p l e ({ frames := 1, cells := 0, slots := 0, locals := 21 } : Room) s m ([.ref (b 0), .ref (a 0)] : List Value).toArray below meth c s.heap [] 0 0 (MQ below (va_Qi (fun (r : Int32) (bs : List va_W) => r = q_wd (fun z => q_rd v (w 2 (f + z))) 12 ∧ bs = [joW cy b (su (su w 3 1 (nI (f + 12))) 3 0 (nI (t + 12))), stW cy a v]) (wl_ib D [joW cy b w, stW cy a v] sz) (va_A ([joW cy b w, stW cy a v] : List va_W).flatten sz)) ([.ref (b 0), .ref (a 0)] : List Value).toArray s 0 0 (va_A ([joW cy b w, stW cy a v] : List va_W).flatten sz)) (F0 m 56 ls [.int v9, .int (2 * (q_wd (fun z => q_rd v (w 2 (f + z))) d))]) := by
        intro ls v9 ev9  hl
        refine lv_iadd hx hb dX1_takeWord_56 ?_
        refine lv_istore_n (lv' := [(2, .int ((2 * (q_wd (fun z => q_rd v (w 2 (f + z))) d)) + v9)), (4, .int (nI (f + d))), (3, .int (nI (f + 12))), (0, .ref (b 0)), (1, .ref (a 0))]) hx hb dX1_takeWord_57 rfl hl (by decide) rfl (fun ls hl => ?_)
        refine lv_iinc (v := nI ((f + d) + 1)) (lv' := [(4, .int (nI ((f + d) + 1))), (2, .int ((2 * (q_wd (fun z => q_rd v (w 2 (f + z))) d)) + v9)), (3, .int (nI (f + 12))), (0, .ref (b 0)), (1, .ref (a 0))]) hx hb dX1_takeWord_58 hl (k := 1) rfl (by rw [wl_inc]) (by decide) rfl (fun ls hl => ?_)
        refine lv_goto (tgt := 16) hx hb dX1_takeWord_61 (by decide) ?_
        subst ev9
        exact ih3 (d + 1) (by omega) (by omega) _  (lv_sub hl [0, 2, 1, 3, 4] rfl)
      refine wl_b_eq (tgt := 55) hx hb (¬ (w 2 (f + d)) < v 5 0) er7 dX1_takeWord_48 (by decide) (fun c8 => ?_) (fun c8 => ?_)
      · refine lv_iconst (v := 0) hx hb dX1_takeWord_55 (by decide) ?_
        exact K10 _ 0 (by rw [if_neg c8]) (lv_sub hl [0, 1, 3, 4] rfl)
      · refine lv_iconst (v := 1) hx hb dX1_takeWord_51 (by decide) ?_
        refine lv_goto (tgt := 56) hx hb dX1_takeWord_52 (by decide) ?_
        exact K10 _ 1 (by rw [if_pos c8]) (lv_sub hl [0, 1, 3, 4] rfl)
set_option maxHeartbeats 4000000 in
set_option maxRecDepth 100000 in
theorem m_X1_passTaker (l : Launch) (D : va_G) (cy : Nat → ClassId) (b : Nat → Nat) (w : Nat → Nat → Int32) (a : Nat → Nat) (v : Nat → Nat → Int32) (j f n t : Nat) (sz : Nat) (hj : j < 8) (hf : w 3 1 = nI f) (he : w 3 2 = nI n) (hfn : f ≤ n) (hn : n ≤ 120) (ht : w 3 0 = nI t) (ht2 : t ≤ 1000) : Met l yX1_passTaker wsX1_passTaker ({ frames := 2, cells := 0, slots := 0, locals := 45 } : Room) (wl_ic D cy (fun _ => True) [joW cy b w, stW cy a v] sz [.ref (b 0), .ref (a 0), .int (nI j)]) (va_Qv (fun (bs : List va_W) => bs = [joW cy b (q_pt v w j f n t), stW cy a v]) (wl_ib D [joW cy b w, stW cy a v] sz) (va_A ([joW cy b w, stW cy a v] : List va_W).flatten sz)) 0 0 (va_A ([joW cy b w, stW cy a v] : List va_W).flatten sz) := by
  refine wl_ofI (cc := cX1_passTaker) (maxL := 4) (ret := none) (by decide) rfl (Nat.le_of_ble_eq_true rfl) ?_
  intro p e s m below meth c ls A hx hb hr hts hown hlocks hml hnm hsz hAe hP hK hD hX hA hS hl
  have hl : lv_has ls 4 [(0, .ref (b 0)), (1, .ref (a 0)), (2, .int (nI j))] := hl
  have lkf15 := hts (.fieldLink RX1 15 "WireLamps$Journey" "words" "[I") (by decide +kernel)
  have lkf18 := hts (.fieldLink RX1 18 "WireLamps$Journey" "pulses" "[I") (by decide +kernel)
  have lkf30 := hts (.fieldLink RX1 30 "WireLamps$Journey" "first" "I") (by decide +kernel)
  have lkf37 := hts (.fieldLink RX1 37 "WireLamps$Journey" "end" "I") (by decide +kernel)
  have in_X1 : ∀ w ∈ u_ws RX1 TX1 6, w ∈ wsX1_passTaker := by decide +kernel
  refine lv_aload_n hx hb dX1_passTaker_0 rfl (lv_at hl 0 rfl) ?_
  refine wl_getf (C := RX1) (T := TX1) (N := 6) (ci := 1) (v := .int (w 3 2)) hx hb hts in_X1 hown hK hP 0 0 rfl rfl rfl 5 (by decide) lkf37 rfl rfl dX1_passTaker_1 ?_
  refine wl_top (y := nI n) he ?_
  refine lv_aload_n hx hb dX1_passTaker_4 rfl (lv_at hl 0 rfl) ?_
  refine wl_getf (C := RX1) (T := TX1) (N := 6) (ci := 1) (v := .int (w 3 1)) hx hb hts in_X1 hown hK hP 0 0 rfl rfl rfl 4 (by decide) lkf30 rfl rfl dX1_passTaker_5 ?_
  refine wl_top (y := nI f) hf ?_
  refine lv_isub hx hb dX1_passTaker_8 ?_
  refine wl_top (y := nI (n - f)) (pk_sub (a := n) (b := f) (by omega)) ?_
  refine lv_bipush (v := 12) hx hb dX1_passTaker_9 (by decide) ?_
  refine wl_icmp_ge (tgt := 23) hx hb (n - f) 12 dX1_passTaker_11 (by decide) (by omega) (by omega) (fun hlt => ?_) (fun hlt => ?_)
  · refine lv_aload_n hx hb dX1_passTaker_23 rfl (lv_at hl 0 rfl) ?_
    refine wl_getf (C := RX1) (T := TX1) (N := 6) (ci := 1) (v := .ref (b 2)) hx hb hts in_X1 hown hK hP 0 0 rfl rfl rfl 1 (by decide) lkf15 rfl rfl dX1_passTaker_24 ?_
    refine lv_iload_n hx hb dX1_passTaker_27 rfl (lv_at hl 2 rfl) ?_
    refine lv_aload_n hx hb dX1_passTaker_28 rfl (lv_at hl 0 rfl) ?_
    refine lv_aload_n hx hb dX1_passTaker_29 rfl (lv_at hl 1 rfl) ?_
    refine wl_iV (As := [.ref (a 0)]) (rest := [.int (nI j), .ref (b 2)]) (bsC := [joW cy b w, stW cy a v]) (bsR := []) ⟨hx, hb, hml, hown, hts⟩ (m_X1_takeWord l D cy b w a v f t s.heap.size hf (by omega) ht (by omega)) (cwV 1 hts gX1_passTaker_X1_takeWord rfl rfl rfl (by decide +kernel) ⟨Nat.le_of_ble_eq_true rfl, Nat.le_of_ble_eq_true rfl⟩) wl_xT (fun _ _ _ => trivial) hK hP hD hS hA rfl rfl rfl rfl rfl hl.1 rfl (Nat.le_of_ble_eq_true rfl) dX1_passTaker_30 ⟨Nat.le_of_ble_eq_true rfl, Nat.le_of_ble_eq_true rfl⟩ (fun r1 bs2 H locs e3 _ _ hP hD hS => ?_)
    obtain ⟨er1, e3⟩ : r1 = q_wd (fun z => q_rd v (w 2 (f + z))) 12 ∧ bs2 = [joW cy b (su (su w 3 1 (nI (f + 12))) 3 0 (nI (t + 12))), stW cy a v] := e3
    subst e3
    subst er1
    have hP : va_P D vwCl ([joW cy b (su (su w 3 1 (nI (f + 12))) 3 0 (nI (t + 12))), stW cy a v] : List va_W).flatten H := hP
    have hD : va_D A ([joW cy b (su (su w 3 1 (nI (f + 12))) 3 0 (nI (t + 12))), stW cy a v] : List va_W).flatten := hD
    refine wl_iast hx hb hK hP hD hS 0 2 rfl rfl j (by omega) (Nat.le_of_ble_eq_true rfl) dX1_passTaker_33 (fun H locs hP hD hS => ?_)
    have hP : va_P D vwCl ([joW cy b (su (su (su w 3 1 (nI (f + 12))) 3 0 (nI (t + 12))) 1 j (q_wd (fun z => q_rd v (w 2 (f + z))) 12)), stW cy a v] : List va_W).flatten H := hP
    have hD : va_D A ([joW cy b (su (su (su w 3 1 (nI (f + 12))) 3 0 (nI (t + 12))) 1 j (q_wd (fun z => q_rd v (w 2 (f + z))) 12)), stW cy a v] : List va_W).flatten := hD
    refine lv_aload_n hx hb dX1_passTaker_34 rfl (lv_at hl 0 rfl) ?_
    refine wl_getf (C := RX1) (T := TX1) (N := 6) (ci := 1) (v := .int ((su (su w 3 1 (nI (f + 12))) 3 0 (nI (t + 12))) 3 1)) hx hb hts in_X1 hown hK hP 0 0 rfl rfl rfl 4 (by decide) lkf30 rfl rfl dX1_passTaker_35 ?_
    refine wl_top (y := nI (f + 12)) rfl ?_
    refine lv_istore_n (lv' := [(3, .int (nI (f + 12))), (0, .ref (b 0)), (1, .ref (a 0)), (2, .int (nI j))]) hx hb dX1_passTaker_38 rfl hl (by decide) rfl (fun ls hl => ?_)
    suffices K4 : ∀ (n5 : Nat) (i : Nat) (Y : Nat → Nat → Int32), n - i < n5 → (f + 12 ≤ i ∧ i ≤ n) → (Y = sf (su (su (su w 3 1 (nI (f + 12))) 3 0 (nI (t + 12))) 1 j (q_wd (fun z => q_rd v (w 2 (f + z))) 12)) 2 (q_pm (q_ho v) (w 2) (f + 12) i)) → ∀ (ls : Array Slot) (H : Heap) (locs : List Loc), va_P D vwCl ([joW cy b Y, stW cy a v] : List va_W).flatten H → va_D A ([joW cy b Y, stW cy a v] : List va_W).flatten → va_S A s.heap H locs → lv_has ls 4 [(3, .int (nI i)), (0, .ref (b 0)), (1, .ref (a 0))] → W p l e ({ frames := 2, cells := 0, slots := 0, locals := 45 } : Room) s m ([.ref (b 0), .ref (a 0), .int (nI j)] : List Value).toArray below meth c H locs 0 0 (MQ below (va_Qv (fun (bs : List va_W) => bs = [joW cy b (q_pt v w j f n t), stW cy a v]) (wl_ib D [joW cy b w, stW cy a v] sz) (va_A ([joW cy b w, stW cy a v] : List va_W).flatten sz)) ([.ref (b 0), .ref (a 0), .int (nI j)] : List Value).toArray s 0 0 (va_A ([joW cy b w, stW cy a v] : List va_W).flatten sz)) (F0 m 39 ls []) from K4 (n + 1) (f + 12) (su (su (su w 3 1 (nI (f + 12))) 3 0 (nI (t + 12))) 1 j (q_wd (fun z => q_rd v (w 2 (f + z))) 12)) (by omega) (by omega) (q_pm_init (w := su (su (su w 3 1 (nI (f + 12))) 3 0 (nI (t + 12))) 1 j (q_wd (fun z => q_rd v (w 2 (f + z))) 12))) _ _ _ hP hD hS (lv_sub hl [0, 1, 2] rfl)
    intro n5
    induction n5 with
    | zero => intro i Y hm; exact absurd hm (Nat.not_lt_zero _)
    | succ n5 ih6 =>
      intro i Y hm hi hW ls H locs hP hD hS hl
      refine lv_iload_n hx hb dX1_passTaker_39 rfl (lv_at hl 0 rfl) ?_
      refine wl_if_lt (tgt := 79) hx hb i dX1_passTaker_40 (by decide) (by omega) ?_
      refine lv_iload_n hx hb dX1_passTaker_43 rfl (lv_at hl 0 rfl) ?_
      refine lv_aload_n hx hb dX1_passTaker_44 rfl (lv_at hl 1 rfl) ?_
      refine wl_getf (C := RX1) (T := TX1) (N := 6) (ci := 1) (v := .int (Y 3 2)) hx hb hts in_X1 hown hK hP 0 0 rfl rfl rfl 5 (by decide) lkf37 rfl rfl dX1_passTaker_45 ?_
      refine wl_top (y := nI n) (by rw [hW]; exact he) ?_
      refine wl_icmp_ge (tgt := 79) hx hb i n dX1_passTaker_48 (by decide) (by omega) (by omega) (fun c8 => ?_) (fun c8 => ?_)
      · exact wl_Rv (bs := [joW cy b Y, stW cy a v]) hx hb hr hlocks hAe hP hD hS (by obtain rfl : i = n := (by omega); rw [q_pt, if_pos hlt, hW]) dX1_passTaker_79
      · refine lv_iload_n hx hb dX1_passTaker_51 rfl (lv_at hl 0 rfl) ?_
        refine lv_bipush (v := 120) hx hb dX1_passTaker_52 (by decide) ?_
        refine wl_icmp_ge (tgt := 79) hx hb i 120 dX1_passTaker_54 (by decide) (by omega) (by omega) (fun c9 => absurd c9 (by omega)) (fun c9 => ?_)
        refine lv_aload_n hx hb dX1_passTaker_57 rfl (lv_at hl 1 rfl) ?_
        refine wl_getf (C := RX1) (T := TX1) (N := 6) (ci := 1) (v := .ref (b 3)) hx hb hts in_X1 hown hK hP 0 0 rfl rfl rfl 3 (by decide) lkf18 rfl rfl dX1_passTaker_58 ?_
        refine lv_iload_n hx hb dX1_passTaker_61 rfl (lv_at hl 0 rfl) ?_
        refine lv_aload_n hx hb dX1_passTaker_62 rfl (lv_at hl 2 rfl) ?_
        refine lv_aload_n hx hb dX1_passTaker_63 rfl (lv_at hl 1 rfl) ?_
        refine wl_getf (C := RX1) (T := TX1) (N := 6) (ci := 1) (v := .ref (b 3)) hx hb hts in_X1 hown hK hP 0 0 rfl rfl rfl 3 (by decide) lkf18 rfl rfl dX1_passTaker_64 ?_
        refine lv_iload_n hx hb dX1_passTaker_67 rfl (lv_at hl 0 rfl) ?_
        refine wl_iald hx hb hK hP 0 3 rfl rfl i (by omega) (Nat.le_of_ble_eq_true rfl) dX1_passTaker_68 ?_
        refine wl_pV (As := [.int (Y 2 i)]) (rest := [.int (nI i), .ref (b 3)]) ⟨hx, hb, hml, hown, hts⟩ (m_X2_handedOn l D cy a v (Y 2 i) ) (cwV 1 hts gX1_passTaker_X2_handedOn rfl rfl rfl (by decide +kernel) ⟨Nat.le_of_ble_eq_true rfl, Nat.le_of_ble_eq_true rfl⟩) hK hP [1] rfl rfl rfl rfl rfl rfl hl.1 rfl (Nat.le_of_ble_eq_true rfl) dX1_passTaker_69 ⟨Nat.le_of_ble_eq_true rfl, Nat.le_of_ble_eq_true rfl⟩ (fun r10 er10 => ?_)
        have er10 : r10 = q_ho v (Y 2 i) := er10
        subst er10
        refine wl_iast hx hb hK hP hD hS 0 3 rfl rfl i (by omega) (Nat.le_of_ble_eq_true rfl) dX1_passTaker_72 (fun H locs hP hD hS => ?_)
        have hP : va_P D vwCl ([joW cy b (su Y 2 i (q_ho v (Y 2 i))), stW cy a v] : List va_W).flatten H := hP
        have hD : va_D A ([joW cy b (su Y 2 i (q_ho v (Y 2 i))), stW cy a v] : List va_W).flatten := hD
        refine lv_iinc (v := nI (i + 1)) (lv' := [(3, .int (nI (i + 1))), (0, .ref (b 0)), (1, .ref (a 0))]) hx hb dX1_passTaker_73 hl (k := 0) rfl (by rw [wl_inc]) (by decide) rfl (fun ls hl => ?_)
        refine lv_goto (tgt := 39) hx hb dX1_passTaker_76 (by decide) ?_
        exact ih6 (i + 1) (su Y 2 i (q_ho v (Y 2 i))) (by omega) (by omega) (by rw [hW]; exact q_pm_step (g := q_ho v) (w := su (su (su w 3 1 (nI (f + 12))) 3 0 (nI (t + 12))) 1 j (q_wd (fun z => q_rd v (w 2 (f + z))) 12)) hi.1) _ _ _ hP hD hS (lv_sub hl [0, 1, 2] rfl)
  · refine lv_aload_n hx hb dX1_passTaker_14 rfl (lv_at hl 0 rfl) ?_
    refine lv_aload_n hx hb dX1_passTaker_15 rfl (lv_at hl 0 rfl) ?_
    refine wl_getf (C := RX1) (T := TX1) (N := 6) (ci := 1) (v := .int (w 3 2)) hx hb hts in_X1 hown hK hP 0 0 rfl rfl rfl 5 (by decide) lkf37 rfl rfl dX1_passTaker_16 ?_
    refine wl_top (y := nI n) he ?_
    refine wl_putf (C := RX1) (T := TX1) (N := 6) (ci := 1) (v := .int (nI n)) hx hb hts in_X1 tyX1 tyX1_ok nmX1 hown hK hP hD hS 0 0 rfl rfl rfl 4 (by decide) lkf30 rfl rfl rfl rfl (Nat.le_of_ble_eq_true rfl) dX1_passTaker_19 (fun H locs hP hD hS => ?_)
    have hP : va_P D vwCl ([joW cy b (su w 3 1 (nI n)), stW cy a v] : List va_W).flatten H := hP
    have hD : va_D A ([joW cy b (su w 3 1 (nI n)), stW cy a v] : List va_W).flatten := hD
    exact wl_Rv (bs := [joW cy b (su w 3 1 (nI n)), stW cy a v]) hx hb hr hlocks hAe hP hD hS (by rw [q_pt, if_neg hlt]) dX1_passTaker_22
set_option maxHeartbeats 4000000 in
set_option maxRecDepth 100000 in
theorem m_X1_goThrough (l : Launch) (D : va_G) (cy : Nat → ClassId) (b : Nat → Nat) (w : Nat → Nat → Int32) (a : Nat → Nat) (v : Nat → Nat → Int32) (n : Nat) (sz : Nat) (hc : v 7 0 = nI n) (hn : n ≤ 120) : Met l yX1_goThrough wsX1_goThrough ({ frames := 3, cells := 0, slots := 0, locals := 68 } : Room) (wl_ic D cy (fun _ => True) [joW cy b w, stW cy a v] sz [.ref (b 0), .ref (a 0)]) (va_Qv (fun (bs : List va_W) => bs = [joW cy b (q_gt v w n 8), stW cy a v]) (wl_ib D [joW cy b w, stW cy a v] sz) (va_A ([joW cy b w, stW cy a v] : List va_W).flatten sz)) 0 0 (va_A ([joW cy b w, stW cy a v] : List va_W).flatten sz) := by
  refine wl_ofI (cc := cX1_goThrough) (maxL := 3) (ret := none) (by decide) rfl (Nat.le_of_ble_eq_true rfl) ?_
  intro p e s m below meth c ls A hx hb hr hts hown hlocks hml hnm hsz hAe hP hK hD hX hA hS hl
  have hl : lv_has ls 3 [(0, .ref (b 0)), (1, .ref (a 0))] := hl
  have lkf15 := hts (.fieldLink RX1 15 "WireLamps$Journey" "words" "[I") (by decide +kernel)
  have lkf18 := hts (.fieldLink RX1 18 "WireLamps$Journey" "pulses" "[I") (by decide +kernel)
  have lkf21 := hts (.fieldLink RX1 21 "WireLamps$State" "pulses" "[I") (by decide +kernel)
  have lkf30 := hts (.fieldLink RX1 30 "WireLamps$Journey" "first" "I") (by decide +kernel)
  have lkf34 := hts (.fieldLink RX1 34 "WireLamps$State" "pulseCount" "I") (by decide +kernel)
  have lkf37 := hts (.fieldLink RX1 37 "WireLamps$Journey" "end" "I") (by decide +kernel)
  have lkf40 := hts (.fieldLink RX1 40 "WireLamps$Journey" "taken" "I") (by decide +kernel)
  have lkf43 := hts (.fieldLink RX1 43 "WireLamps$State" "losses" "[I") (by decide +kernel)
  have lkf50 := hts (.fieldLink RX1 50 "WireLamps$State" "known" "[I") (by decide +kernel)
  have lkf61 := hts (.fieldLink RX1 61 "WireLamps$State" "modes" "[I") (by decide +kernel)
  have lkf9 := hts (.fieldLink RX1 9 "WireLamps$Journey" "came" "[I") (by decide +kernel)
  have lkm24 := hts (.methodLink RX1 24 arraycopyName) (by decide +kernel)
  have lkan := hts (.native arraycopyName) (by decide +kernel)
  have lkas := hts (.static arraycopyName) (by decide +kernel)
  have lkai := hts (.initialized "java/lang/System") (by decide +kernel)
  have in_X1 : ∀ w ∈ u_ws RX1 TX1 6, w ∈ wsX1_goThrough := by decide +kernel
  have in_X2 : ∀ w ∈ u_ws RX2 TX2 13, w ∈ wsX1_goThrough := by decide +kernel
  refine lv_aload_n hx hb dX1_goThrough_0 rfl (lv_at hl 1 rfl) ?_
  refine wl_getf (C := RX2) (T := TX2) (N := 13) (ci := 2) (v := .ref (a 7)) hx hb hts in_X2 hown hK hP 1 0 rfl rfl rfl 6 (by decide) lkf21 rfl rfl dX1_goThrough_1 ?_
  refine lv_iconst (v := 0) hx hb dX1_goThrough_4 (by decide) ?_
  refine lv_aload_n hx hb dX1_goThrough_5 rfl (lv_at hl 0 rfl) ?_
  refine wl_getf (C := RX1) (T := TX1) (N := 6) (ci := 1) (v := .ref (b 3)) hx hb hts in_X1 hown hK hP 0 0 rfl rfl rfl 3 (by decide) lkf18 rfl rfl dX1_goThrough_6 ?_
  refine lv_iconst (v := 0) hx hb dX1_goThrough_9 (by decide) ?_
  refine lv_bipush (v := 120) hx hb dX1_goThrough_10 (by decide) ?_
  refine wl_copyi (n := 120) hx hb (hml.trans hl.1.symm) hown lkm24 lkan lkas lkai hK hP hD hS 1 7 0 3 rfl rfl rfl rfl (Nat.le_of_ble_eq_true rfl) (Nat.le_of_ble_eq_true rfl) (Nat.le_of_ble_eq_true rfl) dX1_goThrough_12 (fun H locs hP hD hS => ?_)
  have hP : va_P D vwCl ([joW cy b (sf w 2 (v 6)), stW cy a v] : List va_W).flatten H := hP
  have hD : va_D A ([joW cy b (sf w 2 (v 6)), stW cy a v] : List va_W).flatten := hD
  refine lv_aload_n hx hb dX1_goThrough_15 rfl (lv_at hl 0 rfl) ?_
  refine lv_iconst (v := 0) hx hb dX1_goThrough_16 (by decide) ?_
  refine wl_putf (C := RX1) (T := TX1) (N := 6) (ci := 1) (v := .int 0) hx hb hts in_X1 tyX1 tyX1_ok nmX1 hown hK hP hD hS 0 0 rfl rfl rfl 4 (by decide) lkf30 rfl rfl rfl rfl (Nat.le_of_ble_eq_true rfl) dX1_goThrough_17 (fun H locs hP hD hS => ?_)
  have hP : va_P D vwCl ([joW cy b (su (sf w 2 (v 6)) 3 1 0), stW cy a v] : List va_W).flatten H := hP
  have hD : va_D A ([joW cy b (su (sf w 2 (v 6)) 3 1 0), stW cy a v] : List va_W).flatten := hD
  refine lv_aload_n hx hb dX1_goThrough_20 rfl (lv_at hl 0 rfl) ?_
  refine lv_aload_n hx hb dX1_goThrough_21 rfl (lv_at hl 1 rfl) ?_
  refine wl_getf (C := RX2) (T := TX2) (N := 13) (ci := 2) (v := .int (v 7 0)) hx hb hts in_X2 hown hK hP 1 0 rfl rfl rfl 7 (by decide) lkf34 rfl rfl dX1_goThrough_22 ?_
  refine wl_top (y := nI n) hc ?_
  refine lv_bipush (v := 120) hx hb dX1_goThrough_25 (by decide) ?_
  have K3 : ∀ (ls : Array Slot) (H : Heap) (locs : List Loc) (v2 : Nat), v2 = (if 120 ≤ n then 120 else n) → va_P D vwCl ([joW cy b (su (sf w 2 (v 6)) 3 1 0), stW cy a v] : List va_W).flatten H → va_D A ([joW cy b (su (sf w 2 (v 6)) 3 1 0), stW cy a v] : List va_W).flatten → va_S A s.heap H locs → lv_has ls 3 [(0, .ref (b 0)), (1, .ref (a 0))] → W p l e ({ frames := 3, cells := 0, slots := 0, locals := 68 } : Room) s m ([.ref (b 0), .ref (a 0)] : List Value).toArray below meth c H locs 0 0 (MQ below (va_Qv (fun (bs : List va_W) => bs = [joW cy b (q_gt v w n 8), stW cy a v]) (wl_ib D [joW cy b w, stW cy a v] sz) (va_A ([joW cy b w, stW cy a v] : List va_W).flatten sz)) ([.ref (b 0), .ref (a 0)] : List Value).toArray s 0 0 (va_A ([joW cy b w, stW cy a v] : List va_W).flatten sz)) (F0 m 39 ls [.int (nI v2), .ref (b 0)]) := by
    intro ls H locs v2 ev2 hP hD hS hl
    rw [show v2 = n from by rw [ev2]; split <;> omega]
    refine wl_putf (C := RX1) (T := TX1) (N := 6) (ci := 1) (v := .int (nI n)) hx hb hts in_X1 tyX1 tyX1_ok nmX1 hown hK hP hD hS 0 0 rfl rfl rfl 5 (by decide) lkf37 rfl rfl rfl rfl (Nat.le_of_ble_eq_true rfl) dX1_goThrough_39 (fun H locs hP hD hS => ?_)
    have hP : va_P D vwCl ([joW cy b (su (su (sf w 2 (v 6)) 3 1 0) 3 2 (nI n)), stW cy a v] : List va_W).flatten H := hP
    have hD : va_D A ([joW cy b (su (su (sf w 2 (v 6)) 3 1 0) 3 2 (nI n)), stW cy a v] : List va_W).flatten := hD
    refine lv_aload_n hx hb dX1_goThrough_42 rfl (lv_at hl 0 rfl) ?_
    refine lv_iconst (v := 0) hx hb dX1_goThrough_43 (by decide) ?_
    refine wl_putf (C := RX1) (T := TX1) (N := 6) (ci := 1) (v := .int 0) hx hb hts in_X1 tyX1 tyX1_ok nmX1 hown hK hP hD hS 0 0 rfl rfl rfl 2 (by decide) lkf40 rfl rfl rfl rfl (Nat.le_of_ble_eq_true rfl) dX1_goThrough_44 (fun H locs hP hD hS => ?_)
    have hP : va_P D vwCl ([joW cy b (su (su (su (sf w 2 (v 6)) 3 1 0) 3 2 (nI n)) 3 0 0), stW cy a v] : List va_W).flatten H := hP
    have hD : va_D A ([joW cy b (su (su (su (sf w 2 (v 6)) 3 1 0) 3 2 (nI n)) 3 0 0), stW cy a v] : List va_W).flatten := hD
    refine lv_iconst (v := 0) hx hb dX1_goThrough_47 (by decide) ?_
    refine lv_istore_n (lv' := [(2, .int 0), (0, .ref (b 0)), (1, .ref (a 0))]) hx hb dX1_goThrough_48 rfl hl (by decide) rfl (fun ls hl => ?_)
    suffices K4 : ∀ (n5 : Nat) (i : Nat), 8 - i < n5 → (i ≤ 8) → ∀ (ls : Array Slot) (H : Heap) (locs : List Loc), va_P D vwCl ([joW cy b (q_gt v w n i), stW cy a v] : List va_W).flatten H → va_D A ([joW cy b (q_gt v w n i), stW cy a v] : List va_W).flatten → va_S A s.heap H locs → lv_has ls 3 [(2, .int (nI i)), (0, .ref (b 0)), (1, .ref (a 0))] → W p l e ({ frames := 3, cells := 0, slots := 0, locals := 68 } : Room) s m ([.ref (b 0), .ref (a 0)] : List Value).toArray below meth c H locs 0 0 (MQ below (va_Qv (fun (bs : List va_W) => bs = [joW cy b (q_gt v w n 8), stW cy a v]) (wl_ib D [joW cy b w, stW cy a v] sz) (va_A ([joW cy b w, stW cy a v] : List va_W).flatten sz)) ([.ref (b 0), .ref (a 0)] : List Value).toArray s 0 0 (va_A ([joW cy b w, stW cy a v] : List va_W).flatten sz)) (F0 m 49 ls []) from K4 9 0 (by omega) (by omega) _ _ _ hP hD hS (lv_sub hl [0, 1, 2] rfl)
    intro n5
    induction n5 with
    | zero => intro i hm; exact absurd hm (Nat.not_lt_zero _)
    | succ n5 ih6 =>
      intro i hm hi ls H locs hP hD hS hl
      refine lv_iload_n hx hb dX1_goThrough_49 rfl (lv_at hl 0 rfl) ?_
      refine lv_bipush (v := 8) hx hb dX1_goThrough_50 (by decide) ?_
      refine wl_icmp_ge (tgt := 133) hx hb i 8 dX1_goThrough_52 (by decide) (by omega) (by omega) (fun c7 => ?_) (fun c7 => ?_)
      · obtain rfl : i = 8 := by omega
        exact wl_Rv (bs := [joW cy b (q_gt v w n 8), stW cy a v]) hx hb hr hlocks hAe hP hD hS (by subst ev2; rfl) dX1_goThrough_133
      · obtain ⟨h31, h32, h30⟩ := q_gt_inv v w n i
        have hgf := q_gf_le v n i
        have hgk := q_gk_le v n i
        refine lv_aload_n hx hb dX1_goThrough_55 rfl (lv_at hl 1 rfl) ?_
        refine lv_aload_n hx hb dX1_goThrough_56 rfl (lv_at hl 2 rfl) ?_
        refine wl_getf (C := RX2) (T := TX2) (N := 13) (ci := 2) (v := .ref (a 2)) hx hb hts in_X2 hown hK hP 1 0 rfl rfl rfl 1 (by decide) lkf43 rfl rfl dX1_goThrough_57 ?_
        refine lv_iload_n hx hb dX1_goThrough_60 rfl (lv_at hl 0 rfl) ?_
        refine wl_iald hx hb hK hP 1 2 rfl rfl i (by omega) (Nat.le_of_ble_eq_true rfl) dX1_goThrough_61 ?_
        refine wl_iVv (As := [.int (v 1 i)]) (rest := []) (bsC := [joW cy b (q_gt v w n i)]) (bsR := [stW cy a v]) ⟨hx, hb, hml, hown, hts⟩ (m_X1_passWire l D cy b (q_gt v w n i) (v 1 i) (q_gf v n i) n H.size h31 h32 (by omega) (by omega)) (cwV 1 hts gX1_goThrough_X1_passWire rfl rfl rfl (by decide +kernel) ⟨Nat.le_of_ble_eq_true rfl, Nat.le_of_ble_eq_true rfl⟩) wl_xT (fun _ _ _ => trivial) hK hP hD hS hA rfl rfl rfl rfl rfl hl.1 rfl (Nat.le_of_ble_eq_true rfl) dX1_goThrough_62 ⟨Nat.le_of_ble_eq_true rfl, Nat.le_of_ble_eq_true rfl⟩ (fun bs8 H locs e9 _ _ hP hD hS => ?_)
        have e9 : bs8 = [joW cy b (sf (q_gt v w n i) 2 (q_pm (fun y => q_sh y (v 1 i)) ((q_gt v w n i) 2) (q_gf v n i) n))] := e9
        subst e9
        have hP : va_P D vwCl ([joW cy b (sf (q_gt v w n i) 2 (q_pm (fun y => q_sh y (v 1 i)) ((q_gt v w n i) 2) (q_gf v n i) n)), stW cy a v] : List va_W).flatten H := hP
        have hD : va_D A ([joW cy b (sf (q_gt v w n i) 2 (q_pm (fun y => q_sh y (v 1 i)) ((q_gt v w n i) 2) (q_gf v n i) n)), stW cy a v] : List va_W).flatten := hD
        refine lv_aload_n hx hb dX1_goThrough_65 rfl (lv_at hl 1 rfl) ?_
        refine wl_getf (C := RX1) (T := TX1) (N := 6) (ci := 1) (v := .ref (b 1)) hx hb hts in_X1 hown hK hP 0 0 rfl rfl rfl 0 (by decide) lkf9 rfl rfl dX1_goThrough_66 ?_
        refine lv_iload_n hx hb dX1_goThrough_69 rfl (lv_at hl 0 rfl) ?_
        refine lv_aload_n hx hb dX1_goThrough_70 rfl (lv_at hl 1 rfl) ?_
        refine wl_getf (C := RX1) (T := TX1) (N := 6) (ci := 1) (v := .int ((sf (q_gt v w n i) 2 (q_pm (fun y => q_sh y (v 1 i)) ((q_gt v w n i) 2) (q_gf v n i) n)) 3 2)) hx hb hts in_X1 hown hK hP 0 0 rfl rfl rfl 5 (by decide) lkf37 rfl rfl dX1_goThrough_71 ?_
        refine wl_top (y := nI n) h32 ?_
        refine lv_aload_n hx hb dX1_goThrough_74 rfl (lv_at hl 1 rfl) ?_
        refine wl_getf (C := RX1) (T := TX1) (N := 6) (ci := 1) (v := .int ((sf (q_gt v w n i) 2 (q_pm (fun y => q_sh y (v 1 i)) ((q_gt v w n i) 2) (q_gf v n i) n)) 3 1)) hx hb hts in_X1 hown hK hP 0 0 rfl rfl rfl 4 (by decide) lkf30 rfl rfl dX1_goThrough_75 ?_
        refine wl_top (y := nI (q_gf v n i)) h31 ?_
        refine lv_isub hx hb dX1_goThrough_78 ?_
        refine wl_top (y := nI (n - (q_gf v n i))) (pk_sub (a := n) (b := q_gf v n i) (by omega)) ?_
        refine wl_iast hx hb hK hP hD hS 0 1 rfl rfl i (by omega) (Nat.le_of_ble_eq_true rfl) dX1_goThrough_79 (fun H locs hP hD hS => ?_)
        have hP : va_P D vwCl ([joW cy b (su (sf (q_gt v w n i) 2 (q_pm (fun y => q_sh y (v 1 i)) ((q_gt v w n i) 2) (q_gf v n i) n)) 0 i (nI (n - (q_gf v n i)))), stW cy a v] : List va_W).flatten H := hP
        have hD : va_D A ([joW cy b (su (sf (q_gt v w n i) 2 (q_pm (fun y => q_sh y (v 1 i)) ((q_gt v w n i) 2) (q_gf v n i) n)) 0 i (nI (n - (q_gf v n i)))), stW cy a v] : List va_W).flatten := hD
        refine lv_aload_n hx hb dX1_goThrough_80 rfl (lv_at hl 1 rfl) ?_
        refine wl_getf (C := RX1) (T := TX1) (N := 6) (ci := 1) (v := .ref (b 2)) hx hb hts in_X1 hown hK hP 0 0 rfl rfl rfl 1 (by decide) lkf15 rfl rfl dX1_goThrough_81 ?_
        refine lv_iload_n hx hb dX1_goThrough_84 rfl (lv_at hl 0 rfl) ?_
        refine lv_aload_n hx hb dX1_goThrough_85 rfl (lv_at hl 2 rfl) ?_
        refine wl_getf (C := RX2) (T := TX2) (N := 13) (ci := 2) (v := .ref (a 3)) hx hb hts in_X2 hown hK hP 1 0 rfl rfl rfl 2 (by decide) lkf50 rfl rfl dX1_goThrough_86 ?_
        refine lv_iload_n hx hb dX1_goThrough_89 rfl (lv_at hl 0 rfl) ?_
        refine wl_iald hx hb hK hP 1 3 rfl rfl i (by omega) (Nat.le_of_ble_eq_true rfl) dX1_goThrough_90 ?_
        refine wl_iast hx hb hK hP hD hS 0 2 rfl rfl i (by omega) (Nat.le_of_ble_eq_true rfl) dX1_goThrough_91 (fun H locs hP hD hS => ?_)
        have hP : va_P D vwCl ([joW cy b (su (su (sf (q_gt v w n i) 2 (q_pm (fun y => q_sh y (v 1 i)) ((q_gt v w n i) 2) (q_gf v n i) n)) 0 i (nI (n - (q_gf v n i)))) 1 i (v 2 i)), stW cy a v] : List va_W).flatten H := hP
        have hD : va_D A ([joW cy b (su (su (sf (q_gt v w n i) 2 (q_pm (fun y => q_sh y (v 1 i)) ((q_gt v w n i) 2) (q_gf v n i) n)) 0 i (nI (n - (q_gf v n i)))) 1 i (v 2 i)), stW cy a v] : List va_W).flatten := hD
        refine lv_aload_n hx hb dX1_goThrough_92 rfl (lv_at hl 2 rfl) ?_
        refine lv_iload_n hx hb dX1_goThrough_93 rfl (lv_at hl 0 rfl) ?_
        refine wl_pV (As := [.int (nI i)]) (rest := []) ⟨hx, hb, hml, hown, hts⟩ (m_X2_takesWords l D cy a v i (by omega)) (cwV 1 hts gX1_goThrough_X2_takesWords rfl rfl rfl (by decide +kernel) ⟨Nat.le_of_ble_eq_true rfl, Nat.le_of_ble_eq_true rfl⟩) hK hP [1] rfl rfl rfl rfl rfl rfl hl.1 rfl (Nat.le_of_ble_eq_true rfl) dX1_goThrough_94 ⟨Nat.le_of_ble_eq_true rfl, Nat.le_of_ble_eq_true rfl⟩ (fun r10 er10 => ?_)
        have er10 : r10 = if (v 0 i = 0 ∨ v 0 i = 1) then 1 else 0 := er10
        have K16 : ∀ (ls : Array Slot) (H : Heap) (locs : List Loc) (w15 : Nat → Nat → Int32), w15 = (if (v 0 i = 0 ∨ v 0 i = 1) then (q_pt v (su (su (sf (q_gt v w n i) 2 (q_pm (fun y => q_sh y (v 1 i)) ((q_gt v w n i) 2) (q_gf v n i) n)) 0 i (nI (n - (q_gf v n i)))) 1 i (v 2 i)) i (q_gf v n i) n (q_gk v n i)) else (if (v 0 i) = 2 then (su (su (su (sf (q_gt v w n i) 2 (q_pm (fun y => q_sh y (v 1 i)) ((q_gt v w n i) 2) (q_gf v n i) n)) 0 i (nI (n - (q_gf v n i)))) 1 i (v 2 i)) 3 1 (nI n)) else (su (su (sf (q_gt v w n i) 2 (q_pm (fun y => q_sh y (v 1 i)) ((q_gt v w n i) 2) (q_gf v n i) n)) 0 i (nI (n - (q_gf v n i)))) 1 i (v 2 i)))) → va_P D vwCl ([joW cy b w15, stW cy a v] : List va_W).flatten H → va_D A ([joW cy b w15, stW cy a v] : List va_W).flatten → va_S A s.heap H locs → lv_has ls 3 [(2, .int (nI i)), (0, .ref (b 0)), (1, .ref (a 0))] → W p l e ({ frames := 3, cells := 0, slots := 0, locals := 68 } : Room) s m ([.ref (b 0), .ref (a 0)] : List Value).toArray below meth c H locs 0 0 (MQ below (va_Qv (fun (bs : List va_W) => bs = [joW cy b (q_gt v w n 8), stW cy a v]) (wl_ib D [joW cy b w, stW cy a v] sz) (va_A ([joW cy b w, stW cy a v] : List va_W).flatten sz)) ([.ref (b 0), .ref (a 0)] : List Value).toArray s 0 0 (va_A ([joW cy b w, stW cy a v] : List va_W).flatten sz)) (F0 m 127 ls []) := by
          intro ls H locs w15 ew15 hP hD hS hl
          refine lv_iinc (v := nI (i + 1)) (lv' := [(2, .int (nI (i + 1))), (0, .ref (b 0)), (1, .ref (a 0))]) hx hb dX1_goThrough_127 hl (k := 0) rfl (by rw [wl_inc]) (by decide) rfl (fun ls hl => ?_)
          refine lv_goto (tgt := 49) hx hb dX1_goThrough_130 (by decide) ?_
          subst ew15
          exact ih6 (i + 1) (by omega) (by omega) _ _ _ hP hD hS (lv_sub hl [0, 1, 2] rfl)
        refine wl_b_eq (tgt := 109) hx hb (v 0 i = 0 ∨ v 0 i = 1) er10 dX1_goThrough_97 (by decide) (fun c11 => ?_) (fun c11 => ?_)
        · refine lv_aload_n hx hb dX1_goThrough_109 rfl (lv_at hl 2 rfl) ?_
          refine wl_getf (C := RX2) (T := TX2) (N := 13) (ci := 2) (v := .ref (a 1)) hx hb hts in_X2 hown hK hP 1 0 rfl rfl rfl 0 (by decide) lkf61 rfl rfl dX1_goThrough_110 ?_
          refine lv_iload_n hx hb dX1_goThrough_113 rfl (lv_at hl 0 rfl) ?_
          refine wl_iald hx hb hK hP 1 1 rfl rfl i (by omega) (Nat.le_of_ble_eq_true rfl) dX1_goThrough_114 ?_
          refine lv_iconst (v := 2) hx hb dX1_goThrough_115 (by decide) ?_
          refine lv_icmp_ne (tgt := 127) hx hb dX1_goThrough_116 (by decide) (fun c12 => ?_) (fun c12 => ?_)
          · exact K16 _ _ _ (su (su (sf (q_gt v w n i) 2 (q_pm (fun y => q_sh y (v 1 i)) ((q_gt v w n i) 2) (q_gf v n i) n)) 0 i (nI (n - (q_gf v n i)))) 1 i (v 2 i)) (by rw [if_neg c11, if_neg c12]) hP hD hS (lv_sub hl [0, 1, 2] rfl)
          · refine lv_aload_n hx hb dX1_goThrough_119 rfl (lv_at hl 1 rfl) ?_
            refine lv_aload_n hx hb dX1_goThrough_120 rfl (lv_at hl 1 rfl) ?_
            refine wl_getf (C := RX1) (T := TX1) (N := 6) (ci := 1) (v := .int ((sf (q_gt v w n i) 2 (q_pm (fun y => q_sh y (v 1 i)) ((q_gt v w n i) 2) (q_gf v n i) n)) 3 2)) hx hb hts in_X1 hown hK hP 0 0 rfl rfl rfl 5 (by decide) lkf37 rfl rfl dX1_goThrough_121 ?_
            refine wl_top (y := nI n) h32 ?_
            refine wl_putf (C := RX1) (T := TX1) (N := 6) (ci := 1) (v := .int (nI n)) hx hb hts in_X1 tyX1 tyX1_ok nmX1 hown hK hP hD hS 0 0 rfl rfl rfl 4 (by decide) lkf30 rfl rfl rfl rfl (Nat.le_of_ble_eq_true rfl) dX1_goThrough_124 (fun H locs hP hD hS => ?_)
            have hP : va_P D vwCl ([joW cy b (su (su (su (sf (q_gt v w n i) 2 (q_pm (fun y => q_sh y (v 1 i)) ((q_gt v w n i) 2) (q_gf v n i) n)) 0 i (nI (n - (q_gf v n i)))) 1 i (v 2 i)) 3 1 (nI n)), stW cy a v] : List va_W).flatten H := hP
            have hD : va_D A ([joW cy b (su (su (su (sf (q_gt v w n i) 2 (q_pm (fun y => q_sh y (v 1 i)) ((q_gt v w n i) 2) (q_gf v n i) n)) 0 i (nI (n - (q_gf v n i)))) 1 i (v 2 i)) 3 1 (nI n)), stW cy a v] : List va_W).flatten := hD
            exact K16 _ _ _ (su (su (su (sf (q_gt v w n i) 2 (q_pm (fun y => q_sh y (v 1 i)) ((q_gt v w n i) 2) (q_gf v n i) n)) 0 i (nI (n - (q_gf v n i)))) 1 i (v 2 i)) 3 1 (nI n)) (by rw [if_neg c11, if_pos c12]) hP hD hS (lv_sub hl [0, 1, 2] rfl)
        · refine lv_aload_n hx hb dX1_goThrough_100 rfl (lv_at hl 1 rfl) ?_
          refine lv_aload_n hx hb dX1_goThrough_101 rfl (lv_at hl 2 rfl) ?_
          refine lv_iload_n hx hb dX1_goThrough_102 rfl (lv_at hl 0 rfl) ?_
          refine wl_iVv (As := [.ref (a 0), .int (nI i)]) (rest := []) (bsC := [joW cy b (su (su (sf (q_gt v w n i) 2 (q_pm (fun y => q_sh y (v 1 i)) ((q_gt v w n i) 2) (q_gf v n i) n)) 0 i (nI (n - (q_gf v n i)))) 1 i (v 2 i)), stW cy a v]) (bsR := []) ⟨hx, hb, hml, hown, hts⟩ (m_X1_passTaker l D cy b (su (su (sf (q_gt v w n i) 2 (q_pm (fun y => q_sh y (v 1 i)) ((q_gt v w n i) 2) (q_gf v n i) n)) 0 i (nI (n - (q_gf v n i)))) 1 i (v 2 i)) a v i (q_gf v n i) n (q_gk v n i) H.size (by omega) h31 h32 (by omega) (by omega) h30 (by omega)) (cwV 2 hts gX1_goThrough_X1_passTaker rfl rfl rfl (by decide +kernel) ⟨Nat.le_of_ble_eq_true rfl, Nat.le_of_ble_eq_true rfl⟩) wl_xT (fun _ _ _ => trivial) hK hP hD hS hA rfl rfl rfl rfl rfl hl.1 rfl (Nat.le_of_ble_eq_true rfl) dX1_goThrough_103 ⟨Nat.le_of_ble_eq_true rfl, Nat.le_of_ble_eq_true rfl⟩ (fun bs13 H locs e14 _ _ hP hD hS => ?_)
          have e14 : bs13 = [joW cy b (q_pt v (su (su (sf (q_gt v w n i) 2 (q_pm (fun y => q_sh y (v 1 i)) ((q_gt v w n i) 2) (q_gf v n i) n)) 0 i (nI (n - (q_gf v n i)))) 1 i (v 2 i)) i (q_gf v n i) n (q_gk v n i)), stW cy a v] := e14
          subst e14
          have hP : va_P D vwCl ([joW cy b (q_pt v (su (su (sf (q_gt v w n i) 2 (q_pm (fun y => q_sh y (v 1 i)) ((q_gt v w n i) 2) (q_gf v n i) n)) 0 i (nI (n - (q_gf v n i)))) 1 i (v 2 i)) i (q_gf v n i) n (q_gk v n i)), stW cy a v] : List va_W).flatten H := hP
          have hD : va_D A ([joW cy b (q_pt v (su (su (sf (q_gt v w n i) 2 (q_pm (fun y => q_sh y (v 1 i)) ((q_gt v w n i) 2) (q_gf v n i) n)) 0 i (nI (n - (q_gf v n i)))) 1 i (v 2 i)) i (q_gf v n i) n (q_gk v n i)), stW cy a v] : List va_W).flatten := hD
          refine lv_goto (tgt := 127) hx hb dX1_goThrough_106 (by decide) ?_
          exact K16 _ _ _ (q_pt v (su (su (sf (q_gt v w n i) 2 (q_pm (fun y => q_sh y (v 1 i)) ((q_gt v w n i) 2) (q_gf v n i) n)) 0 i (nI (n - (q_gf v n i)))) 1 i (v 2 i)) i (q_gf v n i) n (q_gk v n i)) (by rw [if_pos c11]) hP hD hS (lv_sub hl [0, 1, 2] rfl)
  refine wl_icmp_ge (tgt := 37) hx hb n 120 dX1_goThrough_27 (by decide) (by omega) (by omega) (fun c1 => ?_) (fun c1 => ?_)
  · refine lv_bipush (v := 120) hx hb dX1_goThrough_37 (by decide) ?_
    exact K3 _ _ _ 120 (by rw [if_pos c1]) hP hD hS (lv_sub hl [0, 1] rfl)
  · refine lv_aload_n hx hb dX1_goThrough_30 rfl (lv_at hl 1 rfl) ?_
    refine wl_getf (C := RX2) (T := TX2) (N := 13) (ci := 2) (v := .int (v 7 0)) hx hb hts in_X2 hown hK hP 1 0 rfl rfl rfl 7 (by decide) lkf34 rfl rfl dX1_goThrough_31 ?_
    refine wl_top (y := nI n) hc ?_
    refine lv_goto (tgt := 39) hx hb dX1_goThrough_34 (by decide) ?_
    exact K3 _ _ _ n (by rw [if_neg c1]) hP hD hS (lv_sub hl [0, 1] rfl)
