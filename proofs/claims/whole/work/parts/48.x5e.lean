/-! WireLampsModel: its hash, its start -/
set_option maxHeartbeats 4000000 in
set_option maxRecDepth 100000 in
theorem m_Jxe99ae_isNaN_b9ae7 (l : Launch) (D : va_G) (cy : Nat → ClassId) (x : UInt64) (hnn : Op.cmpValue (FP.dcmp x x) .l = 0) : Met l yJxe99ae_isNaN_b9ae7 wsJxe99ae_isNaN_b9ae7 ({ frames := 0, cells := 0, slots := 0, locals := 0 } : Room) (wl_pc D cy [] [.double x]) (vp_Si (fun r : Int32 => r = if False then 1 else 0)) 0 0 (fun _ => False) := by
  refine wl_ofP (cc := cJxe99ae_isNaN_b9ae7) (maxL := 2) (ret := (some .boolean)) (by decide) rfl (Nat.le_of_ble_eq_true rfl) ?_
  intro p e s m below meth c ls hx hb hr hts hown hlocks hml hP hK hl
  have hl : lv_has ls 2 [(0, .double x)] := hl
  refine lv_dload_n hx hb dJxe99ae_isNaN_b9ae7_0 rfl (lv_at hl 0 rfl) ?_
  refine lv_dload_n hx hb dJxe99ae_isNaN_b9ae7_1 rfl (lv_at hl 0 rfl) ?_
  refine lv_dcmp hx hb dJxe99ae_isNaN_b9ae7_2 ?_
  refine lv_if_eq (tgt := 10) hx hb dJxe99ae_isNaN_b9ae7_3 (by decide) (fun c1 => ?_) (fun c1 => absurd hnn c1)
  refine lv_iconst (v := 0) hx hb dJxe99ae_isNaN_b9ae7_10 (by decide) ?_
  exact wl_rz (r := 0) (False) hx hb hr hlocks (by rfl) (by rfl) dJxe99ae_isNaN_b9ae7_11
set_option maxHeartbeats 4000000 in
set_option maxRecDepth 100000 in
theorem m_Jxe99ae_doubleToLongBits_ccdee (l : Launch) (D : va_G) (cy : Nat → ClassId) (x : UInt64) (hnn : Op.cmpValue (FP.dcmp x x) .l = 0) : Met l yJxe99ae_doubleToLongBits_ccdee wsJxe99ae_doubleToLongBits_ccdee ({ frames := 1, cells := 0, slots := 0, locals := 24 } : Room) (wl_pc D cy [] [.double x]) (vp_Sl (fun r : Int64 => r = UInt64.toInt64 x)) 0 0 (fun _ => False) := by
  refine wl_ofP (cc := cJxe99ae_doubleToLongBits_ccdee) (maxL := 2) (ret := (some .long)) (by decide) rfl (Nat.le_of_ble_eq_true rfl) ?_
  intro p e s m below meth c ls hx hb hr hts hown hlocks hml hP hK hl
  have hl : lv_has ls 2 [(0, .double x)] := hl
  refine lv_dload_n hx hb dJxe99ae_doubleToLongBits_ccdee_0 rfl (lv_at hl 0 rfl) ?_
  refine wl_pS (As := [.double x]) (rest := []) ⟨hx, hb, hml, hown, hts⟩ (m_Jxe99ae_isNaN_b9ae7 l D cy x (by omega)) (va_cwS 1 hts gJxe99ae_doubleToLongBits_ccdee_Jxe99ae_isNaN_b9ae7 rfl rfl rfl (by decide +kernel) ⟨Nat.le_of_ble_eq_true rfl, Nat.le_of_ble_eq_true rfl⟩) hK hP [] rfl rfl hl.1 rfl (Nat.le_of_ble_eq_true rfl) dJxe99ae_doubleToLongBits_ccdee_1 ⟨Nat.le_of_ble_eq_true rfl, Nat.le_of_ble_eq_true rfl⟩ (fun r1 er1 => ?_)
  have er1 : r1 = if False then 1 else 0 := er1
  refine wl_b_ne (tgt := 12) hx hb False er1 dJxe99ae_doubleToLongBits_ccdee_4 (by decide) (fun c2 => c2.elim) (fun c2 => ?_)
  refine lv_dload_n hx hb dJxe99ae_doubleToLongBits_ccdee_7 rfl (lv_at hl 0 rfl) ?_
  refine vn_d2l hx hb (hml.trans hl.1.symm) hown (hts (.methodLink RJxe99ae 134 ⟨"java/lang/Double", "doubleToRawLongBits", "(D)J"⟩) (by decide +kernel)) (hts (.native ⟨"java/lang/Double", "doubleToRawLongBits", "(D)J"⟩) (by decide +kernel)) (hts (.static ⟨"java/lang/Double", "doubleToRawLongBits", "(D)J"⟩) (by decide +kernel)) (hts (.initialized "java/lang/Double") (by decide +kernel)) (Nat.le_of_ble_eq_true rfl) (Nat.le_of_ble_eq_true rfl) dJxe99ae_doubleToLongBits_ccdee_8 ?_
  exact wl_rl (r := (UInt64.toInt64 x)) hx hb hr hlocks (by rfl) dJxe99ae_doubleToLongBits_ccdee_11
set_option maxHeartbeats 4000000 in
set_option maxRecDepth 100000 in
theorem r_X5_digest (l : Launch) (D : va_G) (cy : Nat → ClassId) (a : Nat → Nat) (u : Nat → Nat → Int32) (n k : Nat) (sz : Nat) (ht : u 6 3 = -1) (hn : u 0 49 = nI n) (hn2 : n ≤ 120) (hkk : u 6 1 = nI k) (hk2 : k ≤ 60) (hs : ¬ zv u 5 2 < 0) (hnan : vf_n64 (FP.ddiv (FP.i2d (q_st (zv u))) 4645040803167600640)) (hnn : Op.cmpValue (FP.dcmp (FP.ddiv (FP.i2d (q_st (zv u))) 4645040803167600640) (FP.ddiv (FP.i2d (q_st (zv u))) 4645040803167600640)) .l = 0) : Met l yX5_digest wsX5_digest ({ frames := 7, cells := 0, slots := 0, locals := 159 } : Room) (wl_ic D cy (fun _ => True) [moW cy a u] sz [.ref (a 0)]) (va_Ql (fun (r : Int64) (bs : List va_W) => r = q_dim (su u 6 2 0) n k ∧ bs = [moW cy a (su u 6 2 0)]) (wl_ib D [moW cy a u] sz) (va_A ([moW cy a u] : List va_W).flatten sz)) 0 0 (va_A ([moW cy a u] : List va_W).flatten sz) := by
  refine wl_ofI (cc := cX5_digest) (maxL := 5) (ret := (some .long)) (by decide) rfl (Nat.le_of_ble_eq_true rfl) ?_
  intro p e s m below meth c ls A hx hb hr hts hown hlocks hml hnm hsz hAe hP hK hD hX hA hS hl
  have hl : lv_has ls 5 [(0, .ref (a 0))] := hl
  have lkc171 := hts (.constantLong RX5 171 (3517)) (by decide +kernel)
  have lkc173 := hts (.constantLong RX5 173 (31)) (by decide +kernel)
  have lkf113 := hts (.fieldLink RX5 113 "WireLampsModel" "length" "I") (by decide +kernel)
  have lkf19 := hts (.fieldLink RX5 19 "WireLampsModel" "isKept" "[Z") (by decide +kernel)
  have lkf23 := hts (.fieldLink RX5 23 "WireLampsModel" "text" "[I") (by decide +kernel)
  have lkf26 := hts (.fieldLink RX5 26 "WireLampsModel" "trial" "I") (by decide +kernel)
  have lkf33 := hts (.fieldLink RX5 33 "WireLampsModel" "thrown" "I") (by decide +kernel)
  have lkf7 := hts (.fieldLink RX5 7 "WireLampsModel" "z" "[I") (by decide +kernel)
  have in_X5 : ∀ w ∈ u_ws RX5 TX5 13, w ∈ wsX5_digest := by decide +kernel
  refine lv_aload_n hx hb dX5_digest_0 rfl (lv_at hl 0 rfl) ?_
  refine lv_iconst (v := 0) hx hb dX5_digest_1 (by decide) ?_
  refine wl_putf (C := RX5) (T := TX5) (N := 13) (ci := 5) (v := .int 0) hx hb hts in_X5 tyX5 tyX5_ok nmX5 hown hK hP hD hS 0 0 rfl rfl rfl 7 (by decide) lkf33 rfl rfl rfl rfl (Nat.le_of_ble_eq_true rfl) dX5_digest_2 (fun H locs hP hD hS => ?_)
  have hP : va_P D vwCl ([moW cy a (su u 6 2 0)] : List va_W).flatten H := hP
  have hD : va_D A ([moW cy a (su u 6 2 0)] : List va_W).flatten := hD
  refine lv_ldc2 (v := 3517) hx hb hown lkc171 dX5_digest_5 ?_
  refine lv_lstore_n (lv' := [(1, .long 3517), (0, .ref (a 0))]) hx hb dX5_digest_8 rfl hl (by decide) rfl (fun ls hl => ?_)
  refine lv_iconst (v := 0) hx hb dX5_digest_9 (by decide) ?_
  refine lv_istore_n (lv' := [(3, .int 0), (1, .long 3517), (0, .ref (a 0))]) hx hb dX5_digest_10 rfl hl (by decide) rfl (fun ls hl => ?_)
  suffices K1 : ∀ (n2 : Nat) (i : Nat), 11 - i < n2 → (i ≤ 11) → ∀ (ls : Array Slot) (H : Heap) (locs : List Loc), va_P D vwCl ([moW cy a (su u 6 2 0)] : List va_W).flatten H → va_D A ([moW cy a (su u 6 2 0)] : List va_W).flatten → va_S A s.heap H locs → lv_has ls 5 [(3, .int (nI i)), (1, .long (q_hs (q_nm (su u 6 2 0)) 3517 i)), (0, .ref (a 0))] → W p l e ({ frames := 7, cells := 0, slots := 0, locals := 159 } : Room) s m ([.ref (a 0)] : List Value).toArray below meth c H locs 0 0 (MQ below (va_Ql (fun (r : Int64) (bs : List va_W) => r = q_dim (su u 6 2 0) n k ∧ bs = [moW cy a (su u 6 2 0)]) (wl_ib D [moW cy a u] sz) (va_A ([moW cy a u] : List va_W).flatten sz)) ([.ref (a 0)] : List Value).toArray s 0 0 (va_A ([moW cy a u] : List va_W).flatten sz)) (F0 m 11 ls []) from K1 (11 + 1) 0 (by omega) (by omega) _ _ _ hP hD hS (lv_sub hl [0, 1, 2] rfl)
  intro n2
  induction n2 with
  | zero => intro i hm; exact absurd hm (Nat.not_lt_zero _)
  | succ n2 ih3 =>
    intro i hm hi ls H locs hP hD hS hl
    refine lv_iload_n hx hb dX5_digest_11 rfl (lv_at hl 0 rfl) ?_
    refine lv_bipush (v := 11) hx hb dX5_digest_12 (by decide) ?_
    refine wl_icmp_ge (tgt := 36) hx hb i 11 dX5_digest_14 (by decide) (by omega) (by omega) (fun c4 => ?_) (fun c4 => ?_)
    · obtain rfl : i = 11 := by omega
      refine lv_iconst (v := 0) hx hb dX5_digest_36 (by decide) ?_
      refine lv_istore_n (lv' := [(3, .int 0), (1, .long (q_hs (q_nm (su u 6 2 0)) 3517 11)), (0, .ref (a 0))]) hx hb dX5_digest_37 rfl hl (by decide) rfl (fun ls hl => ?_)
      suffices K5 : ∀ (n6 : Nat) (i : Nat), 3 - i < n6 → (i ≤ 3) → ∀ (ls : Array Slot) (H : Heap) (locs : List Loc), va_P D vwCl ([moW cy a (su u 6 2 0)] : List va_W).flatten H → va_D A ([moW cy a (su u 6 2 0)] : List va_W).flatten → va_S A s.heap H locs → lv_has ls 5 [(3, .int (nI i)), (1, .long (q_hs (zv (su u 6 2 0) 5) (q_hs (q_nm (su u 6 2 0)) 3517 11) i)), (0, .ref (a 0))] → W p l e ({ frames := 7, cells := 0, slots := 0, locals := 159 } : Room) s m ([.ref (a 0)] : List Value).toArray below meth c H locs 0 0 (MQ below (va_Ql (fun (r : Int64) (bs : List va_W) => r = q_dim (su u 6 2 0) n k ∧ bs = [moW cy a (su u 6 2 0)]) (wl_ib D [moW cy a u] sz) (va_A ([moW cy a u] : List va_W).flatten sz)) ([.ref (a 0)] : List Value).toArray s 0 0 (va_A ([moW cy a u] : List va_W).flatten sz)) (F0 m 38 ls []) from K5 (3 + 1) 0 (by omega) (by omega) _ _ _ hP hD hS (lv_sub hl [0, 1, 2] rfl)
      intro n6
      induction n6 with
      | zero => intro i hm; exact absurd hm (Nat.not_lt_zero _)
      | succ n6 ih7 =>
        intro i hm hi ls H locs hP hD hS hl
        refine lv_iload_n hx hb dX5_digest_38 rfl (lv_at hl 0 rfl) ?_
        refine lv_iconst (v := 3) hx hb dX5_digest_39 (by decide) ?_
        refine wl_icmp_ge (tgt := 66) hx hb i 3 dX5_digest_40 (by decide) (by omega) (by omega) (fun c8 => ?_) (fun c8 => ?_)
        · obtain rfl : i = 3 := by omega
          refine lv_aload_n hx hb dX5_digest_66 rfl (lv_at hl 2 rfl) ?_
          refine lv_iconst (v := (-1)) hx hb dX5_digest_67 (by decide) ?_
          refine wl_putf (C := RX5) (T := TX5) (N := 13) (ci := 5) (v := .int (-1)) hx hb hts in_X5 tyX5 tyX5_ok nmX5 hown hK hP hD hS 0 0 rfl rfl rfl 8 (by decide) lkf26 rfl rfl rfl rfl (Nat.le_of_ble_eq_true rfl) dX5_digest_68 (fun H locs hP hD hS => ?_)
          have hP : va_P D vwCl ([moW cy a (su (su u 6 2 0) 6 3 (-1))] : List va_W).flatten H := hP
          have hD : va_D A ([moW cy a (su (su u 6 2 0) 6 3 (-1))] : List va_W).flatten := hD
          rw [su_same (u := su u 6 2 0) (k := 6) (i := 3) ht] at hP hD
          refine lv_iconst (v := 0) hx hb dX5_digest_71 (by decide) ?_
          refine lv_istore_n (lv' := [(3, .int 0), (1, .long (q_hs (zv (su u 6 2 0) 5) (q_hs (q_nm (su u 6 2 0)) 3517 11) 3)), (0, .ref (a 0))]) hx hb dX5_digest_72 rfl hl (by decide) rfl (fun ls hl => ?_)
          suffices K9 : ∀ (n10 : Nat) (i : Nat), 8 - i < n10 → (i ≤ 8) → ∀ (ls : Array Slot) (H : Heap) (locs : List Loc), va_P D vwCl ([moW cy a (su u 6 2 0)] : List va_W).flatten H → va_D A ([moW cy a (su u 6 2 0)] : List va_W).flatten → va_S A s.heap H locs → lv_has ls 5 [(3, .int (nI i)), (1, .long (q_wlm (su u 6 2 0) n (q_hs (zv (su u 6 2 0) 5) (q_hs (q_nm (su u 6 2 0)) 3517 11) 3) i)), (0, .ref (a 0))] → W p l e ({ frames := 7, cells := 0, slots := 0, locals := 159 } : Room) s m ([.ref (a 0)] : List Value).toArray below meth c H locs 0 0 (MQ below (va_Ql (fun (r : Int64) (bs : List va_W) => r = q_dim (su u 6 2 0) n k ∧ bs = [moW cy a (su u 6 2 0)]) (wl_ib D [moW cy a u] sz) (va_A ([moW cy a u] : List va_W).flatten sz)) ([.ref (a 0)] : List Value).toArray s 0 0 (va_A ([moW cy a u] : List va_W).flatten sz)) (F0 m 73 ls []) from K9 9 0 (by omega) (by omega) _ _ _ hP hD hS (lv_sub hl [0, 1, 2] rfl)
          intro n10
          induction n10 with
          | zero => intro i hm; exact absurd hm (Nat.not_lt_zero _)
          | succ n10 ih11 =>
            intro i hm hi ls H locs hP hD hS hl
            refine lv_iload_n hx hb dX5_digest_73 rfl (lv_at hl 0 rfl) ?_
            refine lv_bipush (v := 8) hx hb dX5_digest_74 (by decide) ?_
            refine wl_icmp_ge (tgt := 168) hx hb i 8 dX5_digest_76 (by decide) (by omega) (by omega) (fun c12 => ?_) (fun c12 => ?_)
            · obtain rfl : i = 8 := by omega
              refine lv_iconst (v := 0) hx hb dX5_digest_168 (by decide) ?_
              refine lv_istore_n (lv' := [(3, .int 0), (1, .long (q_wlm (su u 6 2 0) n (q_hs (zv (su u 6 2 0) 5) (q_hs (q_nm (su u 6 2 0)) 3517 11) 3) 8)), (0, .ref (a 0))]) hx hb dX5_digest_169 rfl hl (by decide) rfl (fun ls hl => ?_)
              suffices K13 : ∀ (n14 : Nat) (i : Nat), n - i < n14 → (i ≤ n) → ∀ (ls : Array Slot) (H : Heap) (locs : List Loc), va_P D vwCl ([moW cy a (su u 6 2 0)] : List va_W).flatten H → va_D A ([moW cy a (su u 6 2 0)] : List va_W).flatten → va_S A s.heap H locs → lv_has ls 5 [(3, .int (nI i)), (1, .long (q_hs (zv (su u 6 2 0) 6) (q_wlm (su u 6 2 0) n (q_hs (zv (su u 6 2 0) 5) (q_hs (q_nm (su u 6 2 0)) 3517 11) 3) 8) i)), (0, .ref (a 0))] → W p l e ({ frames := 7, cells := 0, slots := 0, locals := 159 } : Room) s m ([.ref (a 0)] : List Value).toArray below meth c H locs 0 0 (MQ below (va_Ql (fun (r : Int64) (bs : List va_W) => r = q_dim (su u 6 2 0) n k ∧ bs = [moW cy a (su u 6 2 0)]) (wl_ib D [moW cy a u] sz) (va_A ([moW cy a u] : List va_W).flatten sz)) ([.ref (a 0)] : List Value).toArray s 0 0 (va_A ([moW cy a u] : List va_W).flatten sz)) (F0 m 170 ls []) from K13 (n + 1) 0 (by omega) (by omega) _ _ _ hP hD hS (lv_sub hl [0, 1, 2] rfl)
              intro n14
              induction n14 with
              | zero => intro i hm; exact absurd hm (Nat.not_lt_zero _)
              | succ n14 ih15 =>
                intro i hm hi ls H locs hP hD hS hl
                refine lv_iload_n hx hb dX5_digest_170 rfl (lv_at hl 0 rfl) ?_
                refine lv_aload_n hx hb dX5_digest_171 rfl (lv_at hl 2 rfl) ?_
                refine wl_getf (C := RX5) (T := TX5) (N := 13) (ci := 5) (v := .ref (a 1)) hx hb hts in_X5 hown hK hP 0 0 rfl rfl rfl 0 (by decide) lkf7 rfl rfl dX5_digest_172 ?_
                refine lv_bipush (v := 49) hx hb dX5_digest_175 (by decide) ?_
                refine wl_iald hx hb hK hP 0 1 rfl rfl 49 (by omega) (Nat.le_of_ble_eq_true rfl) dX5_digest_177 ?_
                refine wl_top (y := nI n) hn ?_
                refine wl_icmp_ge (tgt := 204) hx hb i n dX5_digest_178 (by decide) (by omega) (by omega) (fun c16 => ?_) (fun c16 => ?_)
                · have hil : n = i := by omega
                  subst hil
                  refine lv_ldc2 (v := 31) hx hb hown lkc173 dX5_digest_204 ?_
                  refine lv_lload_n hx hb dX5_digest_207 rfl (lv_at hl 1 rfl) ?_
                  refine lv_lmul hx hb dX5_digest_208 ?_
                  refine lv_aload_n hx hb dX5_digest_209 rfl (lv_at hl 2 rfl) ?_
                  refine lv_sipush (v := 1365) hx hb dX5_digest_210 (by decide) ?_
                  refine wl_iV (As := [.int 1365]) (rest := [.long (31 * (q_hs (zv (su u 6 2 0) 6) (q_wlm (su u 6 2 0) n (q_hs (zv (su u 6 2 0) 5) (q_hs (q_nm (su u 6 2 0)) 3517 11) 3) 8) n))]) (bsC := [moW cy a (su u 6 2 0)]) (bsR := []) ⟨hx, hb, hml, hown, hts⟩ (m_X5_wrongOnes l D cy a (su u 6 2 0) 1365 H.size ht (by decide)) (cwV 1 hts gX5_digest_X5_wrongOnes rfl rfl rfl (by decide +kernel) ⟨Nat.le_of_ble_eq_true rfl, Nat.le_of_ble_eq_true rfl⟩) wl_xT (fun _ _ _ => trivial) hK hP hD hS hA rfl rfl rfl rfl rfl hl.1 rfl (Nat.le_of_ble_eq_true rfl) dX5_digest_213 ⟨Nat.le_of_ble_eq_true rfl, Nat.le_of_ble_eq_true rfl⟩ (fun r17 bs18 H locs e19 _ _ hP hD hS => ?_)
                  obtain ⟨er17, e19⟩ : r17 = q_wv (su u 6 2 0) 1365 ∧ bs18 = [moW cy a (su u 6 2 0)] := e19
                  subst e19
                  subst er17
                  have hP : va_P D vwCl ([moW cy a (su u 6 2 0)] : List va_W).flatten H := hP
                  have hD : va_D A ([moW cy a (su u 6 2 0)] : List va_W).flatten := hD
                  refine lv_i2l (v := Int32.toInt64 (q_wv (su u 6 2 0) 1365)) hx hb dX5_digest_216 rfl ?_
                  refine lv_ladd hx hb dX5_digest_217 ?_
                  refine lv_lstore_n (lv' := [(1, .long ((31 * (q_hs (zv (su u 6 2 0) 6) (q_wlm (su u 6 2 0) n (q_hs (zv (su u 6 2 0) 5) (q_hs (q_nm (su u 6 2 0)) 3517 11) 3) 8) n)) + (Int32.toInt64 (q_wv (su u 6 2 0) 1365)))), (3, .int (nI n)), (0, .ref (a 0))]) hx hb dX5_digest_218 rfl hl (by decide) rfl (fun ls hl => ?_)
                  refine lv_ldc2 (v := 31) hx hb hown lkc173 dX5_digest_219 ?_
                  refine lv_lload_n hx hb dX5_digest_222 rfl (lv_at hl 0 rfl) ?_
                  refine lv_lmul hx hb dX5_digest_223 ?_
                  refine lv_aload_n hx hb dX5_digest_224 rfl (lv_at hl 2 rfl) ?_
                  refine lv_sipush (v := 4095) hx hb dX5_digest_225 (by decide) ?_
                  refine wl_iV (As := [.int 4095]) (rest := [.long (31 * ((31 * (q_hs (zv (su u 6 2 0) 6) (q_wlm (su u 6 2 0) n (q_hs (zv (su u 6 2 0) 5) (q_hs (q_nm (su u 6 2 0)) 3517 11) 3) 8) n)) + (Int32.toInt64 (q_wv (su u 6 2 0) 1365))))]) (bsC := [moW cy a (su u 6 2 0)]) (bsR := []) ⟨hx, hb, hml, hown, hts⟩ (m_X5_wrongOnes l D cy a (su u 6 2 0) 4095 H.size ht (by decide)) (cwV 1 hts gX5_digest_X5_wrongOnes rfl rfl rfl (by decide +kernel) ⟨Nat.le_of_ble_eq_true rfl, Nat.le_of_ble_eq_true rfl⟩) wl_xT (fun _ _ _ => trivial) hK hP hD hS hA rfl rfl rfl rfl rfl hl.1 rfl (Nat.le_of_ble_eq_true rfl) dX5_digest_228 ⟨Nat.le_of_ble_eq_true rfl, Nat.le_of_ble_eq_true rfl⟩ (fun r20 bs21 H locs e22 _ _ hP hD hS => ?_)
                  obtain ⟨er20, e22⟩ : r20 = q_wv (su u 6 2 0) 4095 ∧ bs21 = [moW cy a (su u 6 2 0)] := e22
                  subst e22
                  subst er20
                  have hP : va_P D vwCl ([moW cy a (su u 6 2 0)] : List va_W).flatten H := hP
                  have hD : va_D A ([moW cy a (su u 6 2 0)] : List va_W).flatten := hD
                  refine lv_i2l (v := Int32.toInt64 (q_wv (su u 6 2 0) 4095)) hx hb dX5_digest_231 rfl ?_
                  refine lv_ladd hx hb dX5_digest_232 ?_
                  refine lv_lstore_n (lv' := [(1, .long ((31 * ((31 * (q_hs (zv (su u 6 2 0) 6) (q_wlm (su u 6 2 0) n (q_hs (zv (su u 6 2 0) 5) (q_hs (q_nm (su u 6 2 0)) 3517 11) 3) 8) n)) + (Int32.toInt64 (q_wv (su u 6 2 0) 1365)))) + (Int32.toInt64 (q_wv (su u 6 2 0) 4095)))), (3, .int (nI n)), (0, .ref (a 0))]) hx hb dX5_digest_233 rfl hl (by decide) rfl (fun ls hl => ?_)
                  refine lv_ldc2 (v := 31) hx hb hown lkc173 dX5_digest_234 ?_
                  refine lv_lload_n hx hb dX5_digest_237 rfl (lv_at hl 0 rfl) ?_
                  refine lv_lmul hx hb dX5_digest_238 ?_
                  refine lv_aload_n hx hb dX5_digest_239 rfl (lv_at hl 2 rfl) ?_
                  refine wl_iV (As := []) (rest := [.long (31 * ((31 * ((31 * (q_hs (zv (su u 6 2 0) 6) (q_wlm (su u 6 2 0) n (q_hs (zv (su u 6 2 0) 5) (q_hs (q_nm (su u 6 2 0)) 3517 11) 3) 8) n)) + (Int32.toInt64 (q_wv (su u 6 2 0) 1365)))) + (Int32.toInt64 (q_wv (su u 6 2 0) 4095))))]) (bsC := [moW cy a (su u 6 2 0)]) (bsR := []) ⟨hx, hb, hml, hown, hts⟩ (m_X5_brokenAt l D cy a (su u 6 2 0) H.size ht) (cwV 0 hts gX5_digest_X5_brokenAt rfl rfl rfl (by decide +kernel) ⟨Nat.le_of_ble_eq_true rfl, Nat.le_of_ble_eq_true rfl⟩) wl_xT (fun _ _ _ => trivial) hK hP hD hS hA rfl rfl rfl rfl rfl hl.1 rfl (Nat.le_of_ble_eq_true rfl) dX5_digest_240 ⟨Nat.le_of_ble_eq_true rfl, Nat.le_of_ble_eq_true rfl⟩ (fun r23 bs24 H locs e25 _ _ hP hD hS => ?_)
                  obtain ⟨er23, e25⟩ : r23 = q_bf (su (su (su u 6 2 0) 6 2 0) 6 3 0) 8 ∧ bs24 = [moW cy a (su (su u 6 2 0) 6 2 0)] := e25
                  subst e25
                  subst er23
                  have hP : va_P D vwCl ([moW cy a (su (su u 6 2 0) 6 2 0)] : List va_W).flatten H := hP
                  have hD : va_D A ([moW cy a (su (su u 6 2 0) 6 2 0)] : List va_W).flatten := hD
                  refine lv_i2l (v := Int32.toInt64 (q_bf (su (su (su u 6 2 0) 6 2 0) 6 3 0) 8)) hx hb dX5_digest_243 rfl ?_
                  refine lv_ladd hx hb dX5_digest_244 ?_
                  refine lv_lstore_n (lv' := [(1, .long ((31 * ((31 * ((31 * (q_hs (zv (su u 6 2 0) 6) (q_wlm (su u 6 2 0) n (q_hs (zv (su u 6 2 0) 5) (q_hs (q_nm (su u 6 2 0)) 3517 11) 3) 8) n)) + (Int32.toInt64 (q_wv (su u 6 2 0) 1365)))) + (Int32.toInt64 (q_wv (su u 6 2 0) 4095)))) + (Int32.toInt64 (q_bf (su (su (su u 6 2 0) 6 2 0) 6 3 0) 8)))), (3, .int (nI n)), (0, .ref (a 0))]) hx hb dX5_digest_245 rfl hl (by decide) rfl (fun ls hl => ?_)
                  refine lv_ldc2 (v := 31) hx hb hown lkc173 dX5_digest_246 ?_
                  refine lv_lload_n hx hb dX5_digest_249 rfl (lv_at hl 0 rfl) ?_
                  refine lv_lmul hx hb dX5_digest_250 ?_
                  refine lv_aload_n hx hb dX5_digest_251 rfl (lv_at hl 2 rfl) ?_
                  refine wl_iVd (As := []) (rest := [.long (31 * ((31 * ((31 * ((31 * (q_hs (zv (su u 6 2 0) 6) (q_wlm (su u 6 2 0) n (q_hs (zv (su u 6 2 0) 5) (q_hs (q_nm (su u 6 2 0)) 3517 11) 3) 8) n)) + (Int32.toInt64 (q_wv (su u 6 2 0) 1365)))) + (Int32.toInt64 (q_wv (su u 6 2 0) 4095)))) + (Int32.toInt64 (q_bf (su (su (su u 6 2 0) 6 2 0) 6 3 0) 8))))]) (bsC := [moW cy a (su (su u 6 2 0) 6 2 0)]) (bsR := []) ⟨hx, hb, hml, hown, hts⟩ (m_X5_brightness l D cy a (su (su u 6 2 0) 6 2 0) H.size hs hnan) (cwV 0 hts gX5_digest_X5_brightness rfl rfl rfl (by decide +kernel) ⟨Nat.le_of_ble_eq_true rfl, Nat.le_of_ble_eq_true rfl⟩) wl_xT (fun _ _ _ => trivial) hK hP hD hS hA rfl rfl rfl rfl rfl hl.1 rfl (Nat.le_of_ble_eq_true rfl) dX5_digest_252 ⟨Nat.le_of_ble_eq_true rfl, Nat.le_of_ble_eq_true rfl⟩ (fun r26 bs27 H locs e28 _ _ hP hD hS => ?_)
                  obtain ⟨er26, e28⟩ : r26 = FP.ddiv (FP.i2d (q_st (zv (su (su u 6 2 0) 6 2 0)))) 4645040803167600640 ∧ bs27 = [moW cy a (su (su (su u 6 2 0) 6 2 0) 6 2 0)] := e28
                  subst e28
                  subst er26
                  have hP : va_P D vwCl ([moW cy a (su (su (su u 6 2 0) 6 2 0) 6 2 0)] : List va_W).flatten H := hP
                  have hD : va_D A ([moW cy a (su (su (su u 6 2 0) 6 2 0) 6 2 0)] : List va_W).flatten := hD
                  rw [su_su] at hP hD
                  refine wl_pSl (As := [.double (FP.ddiv (FP.i2d (q_st (zv (su (su u 6 2 0) 6 2 0)))) 4645040803167600640)]) (rest := [.long (31 * ((31 * ((31 * ((31 * (q_hs (zv (su u 6 2 0) 6) (q_wlm (su u 6 2 0) n (q_hs (zv (su u 6 2 0) 5) (q_hs (q_nm (su u 6 2 0)) 3517 11) 3) 8) n)) + (Int32.toInt64 (q_wv (su u 6 2 0) 1365)))) + (Int32.toInt64 (q_wv (su u 6 2 0) 4095)))) + (Int32.toInt64 (q_bf (su (su (su u 6 2 0) 6 2 0) 6 3 0) 8))))]) ⟨hx, hb, hml, hown, hts⟩ (m_Jxe99ae_doubleToLongBits_ccdee l D cy (FP.ddiv (FP.i2d (q_st (zv (su (su u 6 2 0) 6 2 0)))) 4645040803167600640) hnn) (va_cwS 1 hts gX5_digest_Jxe99ae_doubleToLongBits_ccdee rfl rfl rfl (by decide +kernel) ⟨Nat.le_of_ble_eq_true rfl, Nat.le_of_ble_eq_true rfl⟩) hK hP [] rfl rfl hl.1 rfl (Nat.le_of_ble_eq_true rfl) dX5_digest_255 ⟨Nat.le_of_ble_eq_true rfl, Nat.le_of_ble_eq_true rfl⟩ (fun r29 er29 => ?_)
                  have er29 : r29 = UInt64.toInt64 (FP.ddiv (FP.i2d (q_st (zv (su (su u 6 2 0) 6 2 0)))) 4645040803167600640) := er29
                  subst er29
                  refine lv_ladd hx hb dX5_digest_258 ?_
                  refine lv_lstore_n (lv' := [(1, .long ((31 * ((31 * ((31 * ((31 * (q_hs (zv (su u 6 2 0) 6) (q_wlm (su u 6 2 0) n (q_hs (zv (su u 6 2 0) 5) (q_hs (q_nm (su u 6 2 0)) 3517 11) 3) 8) n)) + (Int32.toInt64 (q_wv (su u 6 2 0) 1365)))) + (Int32.toInt64 (q_wv (su u 6 2 0) 4095)))) + (Int32.toInt64 (q_bf (su (su (su u 6 2 0) 6 2 0) 6 3 0) 8)))) + (UInt64.toInt64 (FP.ddiv (FP.i2d (q_st (zv (su (su u 6 2 0) 6 2 0)))) 4645040803167600640)))), (3, .int (nI n)), (0, .ref (a 0))]) hx hb dX5_digest_259 rfl hl (by decide) rfl (fun ls hl => ?_)
                  refine lv_iconst (v := 0) hx hb dX5_digest_260 (by decide) ?_
                  refine lv_istore_n (lv' := [(3, .int 0), (1, .long ((31 * ((31 * ((31 * ((31 * (q_hs (zv (su u 6 2 0) 6) (q_wlm (su u 6 2 0) n (q_hs (zv (su u 6 2 0) 5) (q_hs (q_nm (su u 6 2 0)) 3517 11) 3) 8) n)) + (Int32.toInt64 (q_wv (su u 6 2 0) 1365)))) + (Int32.toInt64 (q_wv (su u 6 2 0) 4095)))) + (Int32.toInt64 (q_bf (su (su (su u 6 2 0) 6 2 0) 6 3 0) 8)))) + (UInt64.toInt64 (FP.ddiv (FP.i2d (q_st (zv (su (su u 6 2 0) 6 2 0)))) 4645040803167600640)))), (0, .ref (a 0))]) hx hb dX5_digest_261 rfl hl (by decide) rfl (fun ls hl => ?_)
                  suffices K30 : ∀ (n31 : Nat) (i : Nat), 2 - i < n31 → (i ≤ 2) → ∀ (ls : Array Slot) (H : Heap) (locs : List Loc), va_P D vwCl ([moW cy a (su u 6 2 0)] : List va_W).flatten H → va_D A ([moW cy a (su u 6 2 0)] : List va_W).flatten → va_S A s.heap H locs → lv_has ls 5 [(3, .int (nI i)), (1, .long (q_hk (su u 6 2 0) (31 * (31 * (31 * (31 * q_hs (zv (su u 6 2 0) 6) (q_wlm (su u 6 2 0) n (q_hs (zv (su u 6 2 0) 5) (q_hs (q_nm (su u 6 2 0)) 3517 11) 3) 8) n + (q_wv (su u 6 2 0) 1365).toInt64) + (q_wv (su u 6 2 0) 4095).toInt64) + (q_bf (su (su u 6 2 0) 6 3 0) 8).toInt64) + (FP.ddiv (FP.i2d (q_st (zv (su u 6 2 0)))) 4645040803167600640).toInt64) i)), (0, .ref (a 0))] → W p l e ({ frames := 7, cells := 0, slots := 0, locals := 159 } : Room) s m ([.ref (a 0)] : List Value).toArray below meth c H locs 0 0 (MQ below (va_Ql (fun (r : Int64) (bs : List va_W) => r = q_dim (su u 6 2 0) n k ∧ bs = [moW cy a (su u 6 2 0)]) (wl_ib D [moW cy a u] sz) (va_A ([moW cy a u] : List va_W).flatten sz)) ([.ref (a 0)] : List Value).toArray s 0 0 (va_A ([moW cy a u] : List va_W).flatten sz)) (F0 m 262 ls []) from K30 (2 + 1) 0 (by omega) (by omega) _ _ _ hP hD hS (lv_sub hl [0, 1, 2] rfl)
                  intro n31
                  induction n31 with
                  | zero => intro i hm; exact absurd hm (Nat.not_lt_zero _)
                  | succ n31 ih32 =>
                    intro i hm hi ls H locs hP hD hS hl
                    refine lv_iload_n hx hb dX5_digest_262 rfl (lv_at hl 0 rfl) ?_
                    refine lv_iconst (v := 2) hx hb dX5_digest_263 (by decide) ?_
                    refine wl_icmp_ge (tgt := 294) hx hb i 2 dX5_digest_264 (by decide) (by omega) (by omega) (fun c33 => ?_) (fun c33 => ?_)
                    · obtain rfl : i = 2 := by omega
                      refine lv_ldc2 (v := 31) hx hb hown lkc173 dX5_digest_294 ?_
                      refine lv_lload_n hx hb dX5_digest_297 rfl (lv_at hl 1 rfl) ?_
                      refine lv_lmul hx hb dX5_digest_298 ?_
                      refine lv_aload_n hx hb dX5_digest_299 rfl (lv_at hl 2 rfl) ?_
                      refine wl_getf (C := RX5) (T := TX5) (N := 13) (ci := 5) (v := .int ((su u 6 2 0) 6 1)) hx hb hts in_X5 hown hK hP 0 0 rfl rfl rfl 6 (by decide) lkf113 rfl rfl dX5_digest_300 ?_
                      refine wl_top (y := nI k) hkk ?_
                      refine lv_i2l (v := Int32.toInt64 (nI k)) hx hb dX5_digest_303 rfl ?_
                      refine lv_ladd hx hb dX5_digest_304 ?_
                      refine lv_lstore_n (lv' := [(1, .long ((31 * (q_hk (su u 6 2 0) (31 * (31 * (31 * (31 * q_hs (zv (su u 6 2 0) 6) (q_wlm (su u 6 2 0) n (q_hs (zv (su u 6 2 0) 5) (q_hs (q_nm (su u 6 2 0)) 3517 11) 3) 8) n + (q_wv (su u 6 2 0) 1365).toInt64) + (q_wv (su u 6 2 0) 4095).toInt64) + (q_bf (su (su u 6 2 0) 6 3 0) 8).toInt64) + (FP.ddiv (FP.i2d (q_st (zv (su u 6 2 0)))) 4645040803167600640).toInt64) 2)) + (Int32.toInt64 (nI k)))), (3, .int (nI 2)), (0, .ref (a 0))]) hx hb dX5_digest_305 rfl hl (by decide) rfl (fun ls hl => ?_)
                      refine lv_iconst (v := 0) hx hb dX5_digest_306 (by decide) ?_
                      refine lv_istore_n (lv' := [(3, .int 0), (1, .long ((31 * (q_hk (su u 6 2 0) (31 * (31 * (31 * (31 * q_hs (zv (su u 6 2 0) 6) (q_wlm (su u 6 2 0) n (q_hs (zv (su u 6 2 0) 5) (q_hs (q_nm (su u 6 2 0)) 3517 11) 3) 8) n + (q_wv (su u 6 2 0) 1365).toInt64) + (q_wv (su u 6 2 0) 4095).toInt64) + (q_bf (su (su u 6 2 0) 6 3 0) 8).toInt64) + (FP.ddiv (FP.i2d (q_st (zv (su u 6 2 0)))) 4645040803167600640).toInt64) 2)) + (Int32.toInt64 (nI k)))), (0, .ref (a 0))]) hx hb dX5_digest_307 rfl hl (by decide) rfl (fun ls hl => ?_)
                      suffices K34 : ∀ (n35 : Nat) (i : Nat), k - i < n35 → (i ≤ k) → ∀ (ls : Array Slot) (H : Heap) (locs : List Loc), va_P D vwCl ([moW cy a (su u 6 2 0)] : List va_W).flatten H → va_D A ([moW cy a (su u 6 2 0)] : List va_W).flatten → va_S A s.heap H locs → lv_has ls 5 [(3, .int (nI i)), (1, .long (q_hs ((su u 6 2 0) 4) (31 * q_hk (su u 6 2 0) (31 * (31 * (31 * (31 * q_hs (zv (su u 6 2 0) 6) (q_wlm (su u 6 2 0) n (q_hs (zv (su u 6 2 0) 5) (q_hs (q_nm (su u 6 2 0)) 3517 11) 3) 8) n + (q_wv (su u 6 2 0) 1365).toInt64) + (q_wv (su u 6 2 0) 4095).toInt64) + (q_bf (su (su u 6 2 0) 6 3 0) 8).toInt64) + (FP.ddiv (FP.i2d (q_st (zv (su u 6 2 0)))) 4645040803167600640).toInt64) 2 + (nI k).toInt64) i)), (0, .ref (a 0))] → W p l e ({ frames := 7, cells := 0, slots := 0, locals := 159 } : Room) s m ([.ref (a 0)] : List Value).toArray below meth c H locs 0 0 (MQ below (va_Ql (fun (r : Int64) (bs : List va_W) => r = q_dim (su u 6 2 0) n k ∧ bs = [moW cy a (su u 6 2 0)]) (wl_ib D [moW cy a u] sz) (va_A ([moW cy a u] : List va_W).flatten sz)) ([.ref (a 0)] : List Value).toArray s 0 0 (va_A ([moW cy a u] : List va_W).flatten sz)) (F0 m 308 ls []) from K34 (k + 1) 0 (by omega) (by omega) _ _ _ hP hD hS (lv_sub hl [0, 1, 2] rfl)
                      intro n35
                      induction n35 with
                      | zero => intro i hm; exact absurd hm (Nat.not_lt_zero _)
                      | succ n35 ih36 =>
                        intro i hm hi ls H locs hP hD hS hl
                        refine lv_iload_n hx hb dX5_digest_308 rfl (lv_at hl 0 rfl) ?_
                        refine lv_aload_n hx hb dX5_digest_309 rfl (lv_at hl 2 rfl) ?_
                        refine wl_getf (C := RX5) (T := TX5) (N := 13) (ci := 5) (v := .int ((su u 6 2 0) 6 1)) hx hb hts in_X5 hown hK hP 0 0 rfl rfl rfl 6 (by decide) lkf113 rfl rfl dX5_digest_310 ?_
                        refine wl_top (y := nI k) hkk ?_
                        refine wl_icmp_ge (tgt := 336) hx hb i k dX5_digest_313 (by decide) (by omega) (by omega) (fun c37 => ?_) (fun c37 => ?_)
                        · have hil : k = i := by omega
                          subst hil
                          refine lv_lload_n hx hb dX5_digest_336 rfl (lv_at hl 1 rfl) ?_
                          exact wl_Rl (bs := [moW cy a (su u 6 2 0)]) (r := (q_hs ((su u 6 2 0) 4) (31 * q_hk (su u 6 2 0) (31 * (31 * (31 * (31 * q_hs (zv (su u 6 2 0) 6) (q_wlm (su u 6 2 0) n (q_hs (zv (su u 6 2 0) 5) (q_hs (q_nm (su u 6 2 0)) 3517 11) 3) 8) n + (q_wv (su u 6 2 0) 1365).toInt64) + (q_wv (su u 6 2 0) 4095).toInt64) + (q_bf (su (su u 6 2 0) 6 3 0) 8).toInt64) + (FP.ddiv (FP.i2d (q_st (zv (su u 6 2 0)))) 4645040803167600640).toInt64) 2 + (nI k).toInt64) k)) hx hb hr hlocks hAe hP hD hS (by exact ⟨rfl, rfl⟩) dX5_digest_337
                        · refine lv_ldc2 (v := 31) hx hb hown lkc173 dX5_digest_316 ?_
                          refine lv_lload_n hx hb dX5_digest_319 rfl (lv_at hl 1 rfl) ?_
                          refine lv_lmul hx hb dX5_digest_320 ?_
                          refine lv_aload_n hx hb dX5_digest_321 rfl (lv_at hl 2 rfl) ?_
                          refine wl_getf (C := RX5) (T := TX5) (N := 13) (ci := 5) (v := .ref (a 5)) hx hb hts in_X5 hown hK hP 0 0 rfl rfl rfl 5 (by decide) lkf23 rfl rfl dX5_digest_322 ?_
                          refine lv_iload_n hx hb dX5_digest_325 rfl (lv_at hl 0 rfl) ?_
                          refine wl_iald hx hb hK hP 0 5 rfl rfl i (by omega) (Nat.le_of_ble_eq_true rfl) dX5_digest_326 ?_
                          refine lv_i2l (v := Int32.toInt64 ((su u 6 2 0) 4 i)) hx hb dX5_digest_327 rfl ?_
                          refine lv_ladd hx hb dX5_digest_328 ?_
                          refine lv_lstore_n (lv' := [(1, .long ((31 * (q_hs ((su u 6 2 0) 4) (31 * q_hk (su u 6 2 0) (31 * (31 * (31 * (31 * q_hs (zv (su u 6 2 0) 6) (q_wlm (su u 6 2 0) n (q_hs (zv (su u 6 2 0) 5) (q_hs (q_nm (su u 6 2 0)) 3517 11) 3) 8) n + (q_wv (su u 6 2 0) 1365).toInt64) + (q_wv (su u 6 2 0) 4095).toInt64) + (q_bf (su (su u 6 2 0) 6 3 0) 8).toInt64) + (FP.ddiv (FP.i2d (q_st (zv (su u 6 2 0)))) 4645040803167600640).toInt64) 2 + (nI k).toInt64) i)) + (Int32.toInt64 ((su u 6 2 0) 4 i)))), (3, .int (nI i)), (0, .ref (a 0))]) hx hb dX5_digest_329 rfl hl (by decide) rfl (fun ls hl => ?_)
                          refine lv_iinc (v := nI (i + 1)) (lv' := [(3, .int (nI (i + 1))), (1, .long ((31 * (q_hs ((su u 6 2 0) 4) (31 * q_hk (su u 6 2 0) (31 * (31 * (31 * (31 * q_hs (zv (su u 6 2 0) 6) (q_wlm (su u 6 2 0) n (q_hs (zv (su u 6 2 0) 5) (q_hs (q_nm (su u 6 2 0)) 3517 11) 3) 8) n + (q_wv (su u 6 2 0) 1365).toInt64) + (q_wv (su u 6 2 0) 4095).toInt64) + (q_bf (su (su u 6 2 0) 6 3 0) 8).toInt64) + (FP.ddiv (FP.i2d (q_st (zv (su u 6 2 0)))) 4645040803167600640).toInt64) 2 + (nI k).toInt64) i)) + (Int32.toInt64 ((su u 6 2 0) 4 i)))), (0, .ref (a 0))]) hx hb dX5_digest_330 hl (k := 1) rfl (wl_inc i) (by decide) rfl (fun ls hl => ?_)
                          refine lv_goto (tgt := 308) hx hb dX5_digest_333 (by decide) ?_
                          exact ih36 (i + 1) (by omega) (by omega) _ _ _ hP hD hS (lv_sub hl [0, 1, 2] rfl)
                    · refine lv_ldc2 (v := 31) hx hb hown lkc173 dX5_digest_267 ?_
                      refine lv_lload_n hx hb dX5_digest_270 rfl (lv_at hl 1 rfl) ?_
                      refine lv_lmul hx hb dX5_digest_271 ?_
                      refine lv_aload_n hx hb dX5_digest_272 rfl (lv_at hl 2 rfl) ?_
                      refine wl_getf (C := RX5) (T := TX5) (N := 13) (ci := 5) (v := .ref (a 4)) hx hb hts in_X5 hown hK hP 0 0 rfl rfl rfl 4 (by decide) lkf19 rfl rfl dX5_digest_273 ?_
                      refine lv_iload_n hx hb dX5_digest_276 rfl (lv_at hl 0 rfl) ?_
                      refine wl_zald hx hb hK hP 0 4 rfl rfl i (by omega) (Nat.le_of_ble_eq_true rfl) dX5_digest_277 ?_
                      have K40 : ∀ (ls : Array Slot) (H : Heap) (locs : List Loc) (v39 : Int64), v39 = (if ((su u 6 2 0) 3 i) = 0 then 0 else 1) → va_P D vwCl ([moW cy a (su u 6 2 0)] : List va_W).flatten H → va_D A ([moW cy a (su u 6 2 0)] : List va_W).flatten → va_S A s.heap H locs → lv_has ls 5 [(3, .int (nI i)), (0, .ref (a 0))] → W p l e ({ frames := 7, cells := 0, slots := 0, locals := 159 } : Room) s m ([.ref (a 0)] : List Value).toArray below meth c H locs 0 0 (MQ below (va_Ql (fun (r : Int64) (bs : List va_W) => r = q_dim (su u 6 2 0) n k ∧ bs = [moW cy a (su u 6 2 0)]) (wl_ib D [moW cy a u] sz) (va_A ([moW cy a u] : List va_W).flatten sz)) ([.ref (a 0)] : List Value).toArray s 0 0 (va_A ([moW cy a u] : List va_W).flatten sz)) (F0 m 286 ls [.long v39, .long (31 * (q_hk (su u 6 2 0) (31 * (31 * (31 * (31 * q_hs (zv (su u 6 2 0) 6) (q_wlm (su u 6 2 0) n (q_hs (zv (su u 6 2 0) 5) (q_hs (q_nm (su u 6 2 0)) 3517 11) 3) 8) n + (q_wv (su u 6 2 0) 1365).toInt64) + (q_wv (su u 6 2 0) 4095).toInt64) + (q_bf (su (su u 6 2 0) 6 3 0) 8).toInt64) + (FP.ddiv (FP.i2d (q_st (zv (su u 6 2 0)))) 4645040803167600640).toInt64) i))]) := by
                        intro ls H locs v39 ev39 hP hD hS hl
                        refine lv_ladd hx hb dX5_digest_286 ?_
                        refine lv_lstore_n (lv' := [(1, .long ((31 * (q_hk (su u 6 2 0) (31 * (31 * (31 * (31 * q_hs (zv (su u 6 2 0) 6) (q_wlm (su u 6 2 0) n (q_hs (zv (su u 6 2 0) 5) (q_hs (q_nm (su u 6 2 0)) 3517 11) 3) 8) n + (q_wv (su u 6 2 0) 1365).toInt64) + (q_wv (su u 6 2 0) 4095).toInt64) + (q_bf (su (su u 6 2 0) 6 3 0) 8).toInt64) + (FP.ddiv (FP.i2d (q_st (zv (su u 6 2 0)))) 4645040803167600640).toInt64) i)) + v39)), (3, .int (nI i)), (0, .ref (a 0))]) hx hb dX5_digest_287 rfl hl (by decide) rfl (fun ls hl => ?_)
                        refine lv_iinc (v := nI (i + 1)) (lv' := [(3, .int (nI (i + 1))), (1, .long ((31 * (q_hk (su u 6 2 0) (31 * (31 * (31 * (31 * q_hs (zv (su u 6 2 0) 6) (q_wlm (su u 6 2 0) n (q_hs (zv (su u 6 2 0) 5) (q_hs (q_nm (su u 6 2 0)) 3517 11) 3) 8) n + (q_wv (su u 6 2 0) 1365).toInt64) + (q_wv (su u 6 2 0) 4095).toInt64) + (q_bf (su (su u 6 2 0) 6 3 0) 8).toInt64) + (FP.ddiv (FP.i2d (q_st (zv (su u 6 2 0)))) 4645040803167600640).toInt64) i)) + v39)), (0, .ref (a 0))]) hx hb dX5_digest_288 hl (k := 1) rfl (wl_inc i) (by decide) rfl (fun ls hl => ?_)
                        refine lv_goto (tgt := 262) hx hb dX5_digest_291 (by decide) ?_
                        subst ev39
                        exact ih32 (i + 1) (by omega) (by omega) _ _ _ hP hD hS (lv_sub hl [0, 1, 2] rfl)
                      refine lv_if_eq (tgt := 285) hx hb dX5_digest_278 (by decide) (fun c38 => ?_) (fun c38 => ?_)
                      · refine lv_lconst (v := 0) hx hb dX5_digest_285 (by decide) ?_
                        exact K40 _ _ _ 0 (by rw [if_pos c38]) hP hD hS (lv_sub hl [0, 2] rfl)
                      · refine lv_lconst (v := 1) hx hb dX5_digest_281 (by decide) ?_
                        refine lv_goto (tgt := 286) hx hb dX5_digest_282 (by decide) ?_
                        exact K40 _ _ _ 1 (by rw [if_neg c38]) hP hD hS (lv_sub hl [0, 2] rfl)
                · refine lv_ldc2 (v := 31) hx hb hown lkc173 dX5_digest_181 ?_
                  refine lv_lload_n hx hb dX5_digest_184 rfl (lv_at hl 1 rfl) ?_
                  refine lv_lmul hx hb dX5_digest_185 ?_
                  refine lv_aload_n hx hb dX5_digest_186 rfl (lv_at hl 2 rfl) ?_
                  refine wl_getf (C := RX5) (T := TX5) (N := 13) (ci := 5) (v := .ref (a 1)) hx hb hts in_X5 hown hK hP 0 0 rfl rfl rfl 0 (by decide) lkf7 rfl rfl dX5_digest_187 ?_
                  refine lv_bipush (v := 50) hx hb dX5_digest_190 (by decide) ?_
                  refine lv_iload_n hx hb dX5_digest_192 rfl (lv_at hl 0 rfl) ?_
                  refine lv_iadd hx hb dX5_digest_193 ?_
                  refine wl_top (y := nI (50 + i)) (nI_add 50 i) ?_
                  refine wl_iald hx hb hK hP 0 1 rfl rfl (50 + i) (by omega) (Nat.le_of_ble_eq_true rfl) dX5_digest_194 ?_
                  refine wl_top (y := zv (su u 6 2 0) 6 i) rfl ?_
                  refine lv_i2l (v := Int32.toInt64 (zv (su u 6 2 0) 6 i)) hx hb dX5_digest_195 rfl ?_
                  refine lv_ladd hx hb dX5_digest_196 ?_
                  refine lv_lstore_n (lv' := [(1, .long ((31 * (q_hs (zv (su u 6 2 0) 6) (q_wlm (su u 6 2 0) n (q_hs (zv (su u 6 2 0) 5) (q_hs (q_nm (su u 6 2 0)) 3517 11) 3) 8) i)) + (Int32.toInt64 (zv (su u 6 2 0) 6 i)))), (3, .int (nI i)), (0, .ref (a 0))]) hx hb dX5_digest_197 rfl hl (by decide) rfl (fun ls hl => ?_)
                  refine lv_iinc (v := nI (i + 1)) (lv' := [(3, .int (nI (i + 1))), (1, .long ((31 * (q_hs (zv (su u 6 2 0) 6) (q_wlm (su u 6 2 0) n (q_hs (zv (su u 6 2 0) 5) (q_hs (q_nm (su u 6 2 0)) 3517 11) 3) 8) i)) + (Int32.toInt64 (zv (su u 6 2 0) 6 i)))), (0, .ref (a 0))]) hx hb dX5_digest_198 hl (k := 1) rfl (wl_inc i) (by decide) rfl (fun ls hl => ?_)
                  refine lv_goto (tgt := 170) hx hb dX5_digest_201 (by decide) ?_
                  exact ih15 (i + 1) (by omega) (by omega) _ _ _ hP hD hS (lv_sub hl [0, 1, 2] rfl)
            · refine lv_iconst (v := 0) hx hb dX5_digest_79 (by decide) ?_
              refine lv_istore (lv' := [(4, .int 0), (3, .int (nI i)), (1, .long (q_wlm (su u 6 2 0) n (q_hs (zv (su u 6 2 0) 5) (q_hs (q_nm (su u 6 2 0)) 3517 11) 3) i)), (0, .ref (a 0))]) hx hb dX5_digest_80 hl (by decide) rfl (fun ls hl => ?_)
              suffices K41 : ∀ (n42 : Nat) (j : Nat), 8 - j < n42 → (j ≤ 8) → ∀ (ls : Array Slot) (H : Heap) (locs : List Loc), va_P D vwCl ([moW cy a (su u 6 2 0)] : List va_W).flatten H → va_D A ([moW cy a (su u 6 2 0)] : List va_W).flatten → va_S A s.heap H locs → lv_has ls 5 [(4, .int (nI j)), (3, .int (nI i)), (1, .long (q_hs (q_lo (zv (su u 6 2 0)) i) (q_wlm (su u 6 2 0) n (q_hs (zv (su u 6 2 0) 5) (q_hs (q_nm (su u 6 2 0)) 3517 11) 3) i) j)), (0, .ref (a 0))] → W p l e ({ frames := 7, cells := 0, slots := 0, locals := 159 } : Room) s m ([.ref (a 0)] : List Value).toArray below meth c H locs 0 0 (MQ below (va_Ql (fun (r : Int64) (bs : List va_W) => r = q_dim (su u 6 2 0) n k ∧ bs = [moW cy a (su u 6 2 0)]) (wl_ib D [moW cy a u] sz) (va_A ([moW cy a u] : List va_W).flatten sz)) ([.ref (a 0)] : List Value).toArray s 0 0 (va_A ([moW cy a u] : List va_W).flatten sz)) (F0 m 82 ls []) from K41 9 0 (by omega) (by omega) _ _ _ hP hD hS (lv_sub hl [0, 1, 2, 3] rfl)
              intro n42
              induction n42 with
              | zero => intro j hm; exact absurd hm (Nat.not_lt_zero _)
              | succ n42 ih43 =>
                intro j hm hj ls H locs hP hD hS hl
                refine lv_iload hx hb dX5_digest_82 (lv_at hl 0 rfl) ?_
                refine lv_bipush (v := 8) hx hb dX5_digest_84 (by decide) ?_
                refine wl_icmp_ge (tgt := 110) hx hb j 8 dX5_digest_86 (by decide) (by omega) (by omega) (fun c44 => ?_) (fun c44 => ?_)
                · obtain rfl : j = 8 := by omega
                  refine lv_ldc2 (v := 31) hx hb hown lkc173 dX5_digest_110 ?_
                  refine lv_lload_n hx hb dX5_digest_113 rfl (lv_at hl 2 rfl) ?_
                  refine lv_lmul hx hb dX5_digest_114 ?_
                  refine lv_aload_n hx hb dX5_digest_115 rfl (lv_at hl 3 rfl) ?_
                  refine lv_iload_n hx hb dX5_digest_116 rfl (lv_at hl 1 rfl) ?_
                  refine wl_pV (As := [.int (nI i)]) (rest := [.long (31 * (q_hs (q_lo (zv (su u 6 2 0)) i) (q_wlm (su u 6 2 0) n (q_hs (zv (su u 6 2 0) 5) (q_hs (q_nm (su u 6 2 0)) 3517 11) 3) i) 8))]) ⟨hx, hb, hml, hown, hts⟩ (m_X5_wordBehind l D cy a (su u 6 2 0) i n (by omega) (Or.inl ⟨ht, hn⟩) (by omega)) (cwV 1 hts gX5_digest_X5_wordBehind rfl rfl rfl (by decide +kernel) ⟨Nat.le_of_ble_eq_true rfl, Nat.le_of_ble_eq_true rfl⟩) hK hP [0] rfl rfl rfl rfl rfl rfl hl.1 rfl (Nat.le_of_ble_eq_true rfl) dX5_digest_117 ⟨Nat.le_of_ble_eq_true rfl, Nat.le_of_ble_eq_true rfl⟩ (fun r45 er45 => ?_)
                  have er45 : r45 = q_wb (su u 6 2 0) n i := er45
                  subst er45
                  refine lv_i2l (v := Int32.toInt64 (q_wb (su u 6 2 0) n i)) hx hb dX5_digest_120 rfl ?_
                  refine lv_ladd hx hb dX5_digest_121 ?_
                  refine lv_lstore_n (lv' := [(1, .long ((31 * (q_hs (q_lo (zv (su u 6 2 0)) i) (q_wlm (su u 6 2 0) n (q_hs (zv (su u 6 2 0) 5) (q_hs (q_nm (su u 6 2 0)) 3517 11) 3) i) 8)) + (Int32.toInt64 (q_wb (su u 6 2 0) n i)))), (4, .int (nI 8)), (3, .int (nI i)), (0, .ref (a 0))]) hx hb dX5_digest_122 rfl hl (by decide) rfl (fun ls hl => ?_)
                  refine lv_ldc2 (v := 31) hx hb hown lkc173 dX5_digest_123 ?_
                  refine lv_lload_n hx hb dX5_digest_126 rfl (lv_at hl 0 rfl) ?_
                  refine lv_lmul hx hb dX5_digest_127 ?_
                  refine lv_aload_n hx hb dX5_digest_128 rfl (lv_at hl 3 rfl) ?_
                  refine lv_iload_n hx hb dX5_digest_129 rfl (lv_at hl 2 rfl) ?_
                  refine wl_pV (As := [.int (nI i)]) (rest := [.long (31 * ((31 * (q_hs (q_lo (zv (su u 6 2 0)) i) (q_wlm (su u 6 2 0) n (q_hs (zv (su u 6 2 0) 5) (q_hs (q_nm (su u 6 2 0)) 3517 11) 3) i) 8)) + (Int32.toInt64 (q_wb (su u 6 2 0) n i))))]) ⟨hx, hb, hml, hown, hts⟩ (m_X5_wordBehind l D cy a (su u 6 2 0) i n (by omega) (Or.inl ⟨ht, hn⟩) (by omega)) (cwV 1 hts gX5_digest_X5_wordBehind rfl rfl rfl (by decide +kernel) ⟨Nat.le_of_ble_eq_true rfl, Nat.le_of_ble_eq_true rfl⟩) hK hP [0] rfl rfl rfl rfl rfl rfl hl.1 rfl (Nat.le_of_ble_eq_true rfl) dX5_digest_130 ⟨Nat.le_of_ble_eq_true rfl, Nat.le_of_ble_eq_true rfl⟩ (fun r46 er46 => ?_)
                  have er46 : r46 = q_wb (su u 6 2 0) n i := er46
                  subst er46
                  refine lv_i2l (v := Int32.toInt64 (q_wb (su u 6 2 0) n i)) hx hb dX5_digest_133 rfl ?_
                  refine lv_ladd hx hb dX5_digest_134 ?_
                  refine lv_lstore_n (lv' := [(1, .long ((31 * ((31 * (q_hs (q_lo (zv (su u 6 2 0)) i) (q_wlm (su u 6 2 0) n (q_hs (zv (su u 6 2 0) 5) (q_hs (q_nm (su u 6 2 0)) 3517 11) 3) i) 8)) + (Int32.toInt64 (q_wb (su u 6 2 0) n i)))) + (Int32.toInt64 (q_wb (su u 6 2 0) n i)))), (4, .int (nI 8)), (3, .int (nI i)), (0, .ref (a 0))]) hx hb dX5_digest_135 rfl hl (by decide) rfl (fun ls hl => ?_)
                  refine lv_ldc2 (v := 31) hx hb hown lkc173 dX5_digest_136 ?_
                  refine lv_lload_n hx hb dX5_digest_139 rfl (lv_at hl 0 rfl) ?_
                  refine lv_lmul hx hb dX5_digest_140 ?_
                  refine lv_aload_n hx hb dX5_digest_141 rfl (lv_at hl 3 rfl) ?_
                  refine lv_iload_n hx hb dX5_digest_142 rfl (lv_at hl 2 rfl) ?_
                  refine wl_iV (As := [.int (nI i)]) (rest := [.long (31 * ((31 * ((31 * (q_hs (q_lo (zv (su u 6 2 0)) i) (q_wlm (su u 6 2 0) n (q_hs (zv (su u 6 2 0) 5) (q_hs (q_nm (su u 6 2 0)) 3517 11) 3) i) 8)) + (Int32.toInt64 (q_wb (su u 6 2 0) n i)))) + (Int32.toInt64 (q_wb (su u 6 2 0) n i))))]) (bsC := [moW cy a (su u 6 2 0)]) (bsR := []) ⟨hx, hb, hml, hown, hts⟩ (m_X5_greatestLoss l D cy a (su u 6 2 0) i H.size ht (by omega)) (cwV 1 hts gX5_digest_X5_greatestLoss rfl rfl rfl (by decide +kernel) ⟨Nat.le_of_ble_eq_true rfl, Nat.le_of_ble_eq_true rfl⟩) wl_xT (fun _ _ _ => trivial) hK hP hD hS hA rfl rfl rfl rfl rfl hl.1 rfl (Nat.le_of_ble_eq_true rfl) dX5_digest_143 ⟨Nat.le_of_ble_eq_true rfl, Nat.le_of_ble_eq_true rfl⟩ (fun r47 bs48 H locs e49 _ _ hP hD hS => ?_)
                  obtain ⟨er47, e49⟩ : r47 = q_fl (su u 6 2 0) i 7 ∧ bs48 = [moW cy a (su u 6 2 0)] := e49
                  subst e49
                  subst er47
                  have hP : va_P D vwCl ([moW cy a (su u 6 2 0)] : List va_W).flatten H := hP
                  have hD : va_D A ([moW cy a (su u 6 2 0)] : List va_W).flatten := hD
                  refine lv_i2l (v := Int32.toInt64 (q_fl (su u 6 2 0) i 7)) hx hb dX5_digest_146 rfl ?_
                  refine lv_ladd hx hb dX5_digest_147 ?_
                  refine lv_lstore_n (lv' := [(1, .long ((31 * ((31 * ((31 * (q_hs (q_lo (zv (su u 6 2 0)) i) (q_wlm (su u 6 2 0) n (q_hs (zv (su u 6 2 0) 5) (q_hs (q_nm (su u 6 2 0)) 3517 11) 3) i) 8)) + (Int32.toInt64 (q_wb (su u 6 2 0) n i)))) + (Int32.toInt64 (q_wb (su u 6 2 0) n i)))) + (Int32.toInt64 (q_fl (su u 6 2 0) i 7)))), (4, .int (nI 8)), (3, .int (nI i)), (0, .ref (a 0))]) hx hb dX5_digest_148 rfl hl (by decide) rfl (fun ls hl => ?_)
                  refine lv_ldc2 (v := 31) hx hb hown lkc173 dX5_digest_149 ?_
                  refine lv_lload_n hx hb dX5_digest_152 rfl (lv_at hl 0 rfl) ?_
                  refine lv_lmul hx hb dX5_digest_153 ?_
                  refine lv_aload_n hx hb dX5_digest_154 rfl (lv_at hl 3 rfl) ?_
                  refine lv_iload_n hx hb dX5_digest_155 rfl (lv_at hl 2 rfl) ?_
                  refine wl_pV (As := [.int (nI i)]) (rest := [.long (31 * ((31 * ((31 * ((31 * (q_hs (q_lo (zv (su u 6 2 0)) i) (q_wlm (su u 6 2 0) n (q_hs (zv (su u 6 2 0) 5) (q_hs (q_nm (su u 6 2 0)) 3517 11) 3) i) 8)) + (Int32.toInt64 (q_wb (su u 6 2 0) n i)))) + (Int32.toInt64 (q_wb (su u 6 2 0) n i)))) + (Int32.toInt64 (q_fl (su u 6 2 0) i 7))))]) ⟨hx, hb, hml, hown, hts⟩ (m_X5_fewestWords l D cy a (su u 6 2 0) i (by omega)) (cwV 1 hts gX5_digest_X5_fewestWords rfl rfl rfl (by decide +kernel) ⟨Nat.le_of_ble_eq_true rfl, Nat.le_of_ble_eq_true rfl⟩) hK hP [0] rfl rfl rfl rfl rfl rfl hl.1 rfl (Nat.le_of_ble_eq_true rfl) dX5_digest_156 ⟨Nat.le_of_ble_eq_true rfl, Nat.le_of_ble_eq_true rfl⟩ (fun r50 er50 => ?_)
                  have er50 : r50 = q_wu (zv (su u 6 2 0)) i := er50
                  subst er50
                  refine lv_i2l (v := Int32.toInt64 (q_wu (zv (su u 6 2 0)) i)) hx hb dX5_digest_159 rfl ?_
                  refine lv_ladd hx hb dX5_digest_160 ?_
                  refine lv_lstore_n (lv' := [(1, .long ((31 * ((31 * ((31 * ((31 * (q_hs (q_lo (zv (su u 6 2 0)) i) (q_wlm (su u 6 2 0) n (q_hs (zv (su u 6 2 0) 5) (q_hs (q_nm (su u 6 2 0)) 3517 11) 3) i) 8)) + (Int32.toInt64 (q_wb (su u 6 2 0) n i)))) + (Int32.toInt64 (q_wb (su u 6 2 0) n i)))) + (Int32.toInt64 (q_fl (su u 6 2 0) i 7)))) + (Int32.toInt64 (q_wu (zv (su u 6 2 0)) i)))), (4, .int (nI 8)), (3, .int (nI i)), (0, .ref (a 0))]) hx hb dX5_digest_161 rfl hl (by decide) rfl (fun ls hl => ?_)
                  refine lv_iinc (v := nI (i + 1)) (lv' := [(3, .int (nI (i + 1))), (1, .long ((31 * ((31 * ((31 * ((31 * (q_hs (q_lo (zv (su u 6 2 0)) i) (q_wlm (su u 6 2 0) n (q_hs (zv (su u 6 2 0) 5) (q_hs (q_nm (su u 6 2 0)) 3517 11) 3) i) 8)) + (Int32.toInt64 (q_wb (su u 6 2 0) n i)))) + (Int32.toInt64 (q_wb (su u 6 2 0) n i)))) + (Int32.toInt64 (q_fl (su u 6 2 0) i 7)))) + (Int32.toInt64 (q_wu (zv (su u 6 2 0)) i)))), (4, .int (nI 8)), (0, .ref (a 0))]) hx hb dX5_digest_162 hl (k := 2) rfl (wl_inc i) (by decide) rfl (fun ls hl => ?_)
                  refine lv_goto (tgt := 73) hx hb dX5_digest_165 (by decide) ?_
                  exact ih11 (i + 1) (by omega) (by omega) _ _ _ hP hD hS (lv_sub hl [0, 1, 3] rfl)
                · refine lv_ldc2 (v := 31) hx hb hown lkc173 dX5_digest_89 ?_
                  refine lv_lload_n hx hb dX5_digest_92 rfl (lv_at hl 2 rfl) ?_
                  refine lv_lmul hx hb dX5_digest_93 ?_
                  refine lv_aload_n hx hb dX5_digest_94 rfl (lv_at hl 3 rfl) ?_
                  refine lv_iload_n hx hb dX5_digest_95 rfl (lv_at hl 1 rfl) ?_
                  refine lv_iload hx hb dX5_digest_96 (lv_at hl 0 rfl) ?_
                  refine wl_pV (As := [.int (nI i), .int (nI j)]) (rest := [.long (31 * (q_hs (q_lo (zv (su u 6 2 0)) i) (q_wlm (su u 6 2 0) n (q_hs (zv (su u 6 2 0) 5) (q_hs (q_nm (su u 6 2 0)) 3517 11) 3) i) j))]) ⟨hx, hb, hml, hown, hts⟩ (m_X5_aboutLamp l D cy a (su u 6 2 0) i j (by omega) (by omega) hs) (cwV 2 hts gX5_digest_X5_aboutLamp rfl rfl rfl (by decide +kernel) ⟨Nat.le_of_ble_eq_true rfl, Nat.le_of_ble_eq_true rfl⟩) hK hP [0] rfl rfl rfl rfl rfl rfl hl.1 rfl (Nat.le_of_ble_eq_true rfl) dX5_digest_98 ⟨Nat.le_of_ble_eq_true rfl, Nat.le_of_ble_eq_true rfl⟩ (fun r51 er51 => ?_)
                  have er51 : r51 = q_lo (zv (su u 6 2 0)) i j := er51
                  subst er51
                  refine lv_i2l (v := Int32.toInt64 (q_lo (zv (su u 6 2 0)) i j)) hx hb dX5_digest_101 rfl ?_
                  refine lv_ladd hx hb dX5_digest_102 ?_
                  refine lv_lstore_n (lv' := [(1, .long ((31 * (q_hs (q_lo (zv (su u 6 2 0)) i) (q_wlm (su u 6 2 0) n (q_hs (zv (su u 6 2 0) 5) (q_hs (q_nm (su u 6 2 0)) 3517 11) 3) i) j)) + (Int32.toInt64 (q_lo (zv (su u 6 2 0)) i j)))), (4, .int (nI j)), (3, .int (nI i)), (0, .ref (a 0))]) hx hb dX5_digest_103 rfl hl (by decide) rfl (fun ls hl => ?_)
                  refine lv_iinc (v := nI (j + 1)) (lv' := [(4, .int (nI (j + 1))), (1, .long ((31 * (q_hs (q_lo (zv (su u 6 2 0)) i) (q_wlm (su u 6 2 0) n (q_hs (zv (su u 6 2 0) 5) (q_hs (q_nm (su u 6 2 0)) 3517 11) 3) i) j)) + (Int32.toInt64 (q_lo (zv (su u 6 2 0)) i j)))), (3, .int (nI i)), (0, .ref (a 0))]) hx hb dX5_digest_104 hl (k := 1) rfl (wl_inc j) (by decide) rfl (fun ls hl => ?_)
                  refine lv_goto (tgt := 82) hx hb dX5_digest_107 (by decide) ?_
                  exact ih43 (j + 1) (by omega) (by omega) _ _ _ hP hD hS (lv_sub hl [0, 2, 1, 3] rfl)
        · refine lv_ldc2 (v := 31) hx hb hown lkc173 dX5_digest_43 ?_
          refine lv_lload_n hx hb dX5_digest_46 rfl (lv_at hl 1 rfl) ?_
          refine lv_lmul hx hb dX5_digest_47 ?_
          refine lv_aload_n hx hb dX5_digest_48 rfl (lv_at hl 2 rfl) ?_
          refine wl_getf (C := RX5) (T := TX5) (N := 13) (ci := 5) (v := .ref (a 1)) hx hb hts in_X5 hown hK hP 0 0 rfl rfl rfl 0 (by decide) lkf7 rfl rfl dX5_digest_49 ?_
          refine lv_bipush (v := 40) hx hb dX5_digest_52 (by decide) ?_
          refine lv_iload_n hx hb dX5_digest_54 rfl (lv_at hl 0 rfl) ?_
          refine lv_iadd hx hb dX5_digest_55 ?_
          refine wl_top (y := nI (40 + i)) (nI_add 40 i) ?_
          refine wl_iald hx hb hK hP 0 1 rfl rfl (40 + i) (by omega) (Nat.le_of_ble_eq_true rfl) dX5_digest_56 ?_
          refine wl_top (y := zv (su u 6 2 0) 5 i) rfl ?_
          refine lv_i2l (v := Int32.toInt64 (zv (su u 6 2 0) 5 i)) hx hb dX5_digest_57 rfl ?_
          refine lv_ladd hx hb dX5_digest_58 ?_
          refine lv_lstore_n (lv' := [(1, .long ((31 * (q_hs (zv (su u 6 2 0) 5) (q_hs (q_nm (su u 6 2 0)) 3517 11) i)) + (Int32.toInt64 (zv (su u 6 2 0) 5 i)))), (3, .int (nI i)), (0, .ref (a 0))]) hx hb dX5_digest_59 rfl hl (by decide) rfl (fun ls hl => ?_)
          refine lv_iinc (v := nI (i + 1)) (lv' := [(3, .int (nI (i + 1))), (1, .long ((31 * (q_hs (zv (su u 6 2 0) 5) (q_hs (q_nm (su u 6 2 0)) 3517 11) i)) + (Int32.toInt64 (zv (su u 6 2 0) 5 i)))), (0, .ref (a 0))]) hx hb dX5_digest_60 hl (k := 1) rfl (wl_inc i) (by decide) rfl (fun ls hl => ?_)
          refine lv_goto (tgt := 38) hx hb dX5_digest_63 (by decide) ?_
          exact ih7 (i + 1) (by omega) (by omega) _ _ _ hP hD hS (lv_sub hl [0, 1, 2] rfl)
    · refine lv_ldc2 (v := 31) hx hb hown lkc173 dX5_digest_17 ?_
      refine lv_lload_n hx hb dX5_digest_20 rfl (lv_at hl 1 rfl) ?_
      refine lv_lmul hx hb dX5_digest_21 ?_
      refine lv_aload_n hx hb dX5_digest_22 rfl (lv_at hl 2 rfl) ?_
      refine lv_iload_n hx hb dX5_digest_23 rfl (lv_at hl 0 rfl) ?_
      refine wl_pV (As := [.int (nI i)]) (rest := [.long (31 * (q_hs (q_nm (su u 6 2 0)) 3517 i))]) ⟨hx, hb, hml, hown, hts⟩ (m_X5_number l D cy a (su u 6 2 0) i (by omega) hs) (cwV 1 hts gX5_digest_X5_number rfl rfl rfl (by decide +kernel) ⟨Nat.le_of_ble_eq_true rfl, Nat.le_of_ble_eq_true rfl⟩) hK hP [0] rfl rfl rfl rfl rfl rfl hl.1 rfl (Nat.le_of_ble_eq_true rfl) dX5_digest_24 ⟨Nat.le_of_ble_eq_true rfl, Nat.le_of_ble_eq_true rfl⟩ (fun r52 er52 => ?_)
      have er52 : r52 = q_nm (su u 6 2 0) i := er52
      subst er52
      refine lv_i2l (v := Int32.toInt64 (q_nm (su u 6 2 0) i)) hx hb dX5_digest_27 rfl ?_
      refine lv_ladd hx hb dX5_digest_28 ?_
      refine lv_lstore_n (lv' := [(1, .long ((31 * (q_hs (q_nm (su u 6 2 0)) 3517 i)) + (Int32.toInt64 (q_nm (su u 6 2 0) i)))), (3, .int (nI i)), (0, .ref (a 0))]) hx hb dX5_digest_29 rfl hl (by decide) rfl (fun ls hl => ?_)
      refine lv_iinc (v := nI (i + 1)) (lv' := [(3, .int (nI (i + 1))), (1, .long ((31 * (q_hs (q_nm (su u 6 2 0)) 3517 i)) + (Int32.toInt64 (q_nm (su u 6 2 0) i)))), (0, .ref (a 0))]) hx hb dX5_digest_30 hl (k := 1) rfl (wl_inc i) (by decide) rfl (fun ls hl => ?_)
      refine lv_goto (tgt := 11) hx hb dX5_digest_33 (by decide) ?_
      exact ih3 (i + 1) (by omega) (by omega) _ _ _ hP hD hS (lv_sub hl [0, 1, 2] rfl)
set_option maxHeartbeats 4000000 in
set_option maxRecDepth 100000 in
theorem m_X5_init (l : Launch) (D : va_G) (cy : Nat → ClassId) (h : Nat) (sz : Nat)  : Met l yX5_init wsX5_init ({ frames := 1, cells := 6, slots := 1602, locals := 12 } : Room) (wl_ic D cy (fun _ => True) [([(h, .inr (5, [.null, .null, .int 0, .null, .null, .null, .int 0, .int 0, .int 0, .null, .int 0, .int 0, .int 0]))] : va_W)] sz [.ref h]) (va_Qv (fun (bs : List va_W) => ∃ a : Nat → Nat, a 0 = h ∧ bs = [moW cy a q_m0]) (wl_ib D [([(h, .inr (5, [.null, .null, .int 0, .null, .null, .null, .int 0, .int 0, .int 0, .null, .int 0, .int 0, .int 0]))] : va_W)] sz) (va_A ([([(h, .inr (5, [.null, .null, .int 0, .null, .null, .null, .int 0, .int 0, .int 0, .null, .int 0, .int 0, .int 0]))] : va_W)] : List va_W).flatten sz)) 6 1602 (va_A ([([(h, .inr (5, [.null, .null, .int 0, .null, .null, .null, .int 0, .int 0, .int 0, .null, .int 0, .int 0, .int 0]))] : va_W)] : List va_W).flatten sz) := by
  refine wl_ofI (cc := cX5_init) (maxL := 1) (ret := none) (by decide) rfl (Nat.le_of_ble_eq_true rfl) ?_
  intro p e s m below meth c ls A hx hb hr hts hown hlocks hml hnm hsz hAe hP hK hD hX hA hS hl
  have hl : lv_has ls 1 [(0, .ref h)] := hl
  have lka_boolean := hts (.arrayClass .boolean) (by decide +kernel)
  have lka_int := hts (.arrayClass .int) (by decide +kernel)
  have lkf13 := hts (.fieldLink RX5 13 "WireLampsModel" "saved" "[I") (by decide +kernel)
  have lkf16 := hts (.fieldLink RX5 16 "WireLampsModel" "slots" "[I") (by decide +kernel)
  have lkf19 := hts (.fieldLink RX5 19 "WireLampsModel" "isKept" "[Z") (by decide +kernel)
  have lkf23 := hts (.fieldLink RX5 23 "WireLampsModel" "text" "[I") (by decide +kernel)
  have lkf26 := hts (.fieldLink RX5 26 "WireLampsModel" "trial" "I") (by decide +kernel)
  have lkf30 := hts (.fieldLink RX5 30 "WireLampsModel" "told" "[I") (by decide +kernel)
  have lkf7 := hts (.fieldLink RX5 7 "WireLampsModel" "z" "[I") (by decide +kernel)
  have in_X5 : ∀ w ∈ u_ws RX5 TX5 13, w ∈ wsX5_init := by decide +kernel
  refine lv_aload_n hx hb dX5_init_0 rfl (lv_at hl 0 rfl) ?_
  refine W.objInit hx hb hown (hts (.methodLink RX5 1 objectInit) (by decide +kernel)) (hts (.instanceMethod objectInit) (by decide +kernel)) (hts (.code objectInit ⟨#[0xb1]⟩ 1 none) (by decide +kernel)) rfl (by rw [hml]; exact hl.1) rfl dX5_init_1 (Nat.le_of_ble_eq_true rfl) (Nat.le_of_ble_eq_true rfl) ?_
  refine W.eq (g2 := F0 m 4 ls []) rfl ?_
  refine lv_aload_n hx hb dX5_init_4 rfl (lv_at hl 0 rfl) ?_
  refine lv_sipush (v := 170) hx hb dX5_init_5 (by decide) ?_
  refine wl_newai hx hb lka_int hK hP hD hS hA 170 (Nat.le_of_ble_eq_true rfl) (Nat.le_of_ble_eq_true rfl) (Nat.le_of_ble_eq_true rfl) dX5_init_8 (fun q1 H hP hD hS => ?_)
  refine W.widen (k := 1) (n := 170) (Nat.le_refl _) (Nat.le_refl _) ?_
  have hP : va_P D vwCl ([([(h, .inr (5, [.null, .null, .int 0, .null, .null, .null, .int 0, .int 0, .int 0, .null, .int 0, .int 0, .int 0]))] : va_W), ([(q1, .inl (cy 0, 170, (.inl (fun _ => 0))))] : va_W)] : List va_W).flatten H := hP
  have hD : va_D A ([([(h, .inr (5, [.null, .null, .int 0, .null, .null, .null, .int 0, .int 0, .int 0, .null, .int 0, .int 0, .int 0]))] : va_W), ([(q1, .inl (cy 0, 170, (.inl (fun _ => 0))))] : va_W)] : List va_W).flatten := hD
  refine wl_putF (C := RX5) (T := TX5) (N := 13) (ci := 5) (v := .ref q1) hx hb hts in_X5 tyX5 tyX5_ok nmX5 hown hK hP hD hS 0 0 rfl rfl rfl 0 (by decide) lkf7 rfl rfl hnm rfl rfl rfl (Nat.le_of_ble_eq_true rfl) dX5_init_10 (fun H locs hP hD hS => ?_)
  have hP : va_P D vwCl ([([(h, .inr (5, [.ref q1, .null, .int 0, .null, .null, .null, .int 0, .int 0, .int 0, .null, .int 0, .int 0, .int 0]))] : va_W), ([(q1, .inl (cy 0, 170, (.inl (fun _ => 0))))] : va_W)] : List va_W).flatten H := hP
  have hD : va_D A ([([(h, .inr (5, [.ref q1, .null, .int 0, .null, .null, .null, .int 0, .int 0, .int 0, .null, .int 0, .int 0, .int 0]))] : va_W), ([(q1, .inl (cy 0, 170, (.inl (fun _ => 0))))] : va_W)] : List va_W).flatten := hD
  refine lv_aload_n hx hb dX5_init_13 rfl (lv_at hl 0 rfl) ?_
  refine lv_sipush (v := 1020) hx hb dX5_init_14 (by decide) ?_
  refine wl_newai hx hb lka_int hK hP hD hS hA 1020 (Nat.le_of_ble_eq_true rfl) (Nat.le_of_ble_eq_true rfl) (Nat.le_of_ble_eq_true rfl) dX5_init_17 (fun q2 H hP hD hS => ?_)
  refine W.widen (k := 2) (n := 1190) (Nat.le_refl _) (Nat.le_refl _) ?_
  have hP : va_P D vwCl ([([(h, .inr (5, [.ref q1, .null, .int 0, .null, .null, .null, .int 0, .int 0, .int 0, .null, .int 0, .int 0, .int 0]))] : va_W), ([(q1, .inl (cy 0, 170, (.inl (fun _ => 0))))] : va_W), ([(q2, .inl (cy 0, 1020, (.inl (fun _ => 0))))] : va_W)] : List va_W).flatten H := hP
  have hD : va_D A ([([(h, .inr (5, [.ref q1, .null, .int 0, .null, .null, .null, .int 0, .int 0, .int 0, .null, .int 0, .int 0, .int 0]))] : va_W), ([(q1, .inl (cy 0, 170, (.inl (fun _ => 0))))] : va_W), ([(q2, .inl (cy 0, 1020, (.inl (fun _ => 0))))] : va_W)] : List va_W).flatten := hD
  refine wl_putF (C := RX5) (T := TX5) (N := 13) (ci := 5) (v := .ref q2) hx hb hts in_X5 tyX5 tyX5_ok nmX5 hown hK hP hD hS 0 0 rfl rfl rfl 1 (by decide) lkf13 rfl rfl hnm rfl rfl rfl (Nat.le_of_ble_eq_true rfl) dX5_init_19 (fun H locs hP hD hS => ?_)
  have hP : va_P D vwCl ([([(h, .inr (5, [.ref q1, .ref q2, .int 0, .null, .null, .null, .int 0, .int 0, .int 0, .null, .int 0, .int 0, .int 0]))] : va_W), ([(q1, .inl (cy 0, 170, (.inl (fun _ => 0))))] : va_W), ([(q2, .inl (cy 0, 1020, (.inl (fun _ => 0))))] : va_W)] : List va_W).flatten H := hP
  have hD : va_D A ([([(h, .inr (5, [.ref q1, .ref q2, .int 0, .null, .null, .null, .int 0, .int 0, .int 0, .null, .int 0, .int 0, .int 0]))] : va_W), ([(q1, .inl (cy 0, 170, (.inl (fun _ => 0))))] : va_W), ([(q2, .inl (cy 0, 1020, (.inl (fun _ => 0))))] : va_W)] : List va_W).flatten := hD
  refine lv_aload_n hx hb dX5_init_22 rfl (lv_at hl 0 rfl) ?_
  refine lv_sipush (v := 340) hx hb dX5_init_23 (by decide) ?_
  refine wl_newai hx hb lka_int hK hP hD hS hA 340 (Nat.le_of_ble_eq_true rfl) (Nat.le_of_ble_eq_true rfl) (Nat.le_of_ble_eq_true rfl) dX5_init_26 (fun q3 H hP hD hS => ?_)
  refine W.widen (k := 3) (n := 1530) (Nat.le_refl _) (Nat.le_refl _) ?_
  have hP : va_P D vwCl ([([(h, .inr (5, [.ref q1, .ref q2, .int 0, .null, .null, .null, .int 0, .int 0, .int 0, .null, .int 0, .int 0, .int 0]))] : va_W), ([(q1, .inl (cy 0, 170, (.inl (fun _ => 0))))] : va_W), ([(q2, .inl (cy 0, 1020, (.inl (fun _ => 0))))] : va_W), ([(q3, .inl (cy 0, 340, (.inl (fun _ => 0))))] : va_W)] : List va_W).flatten H := hP
  have hD : va_D A ([([(h, .inr (5, [.ref q1, .ref q2, .int 0, .null, .null, .null, .int 0, .int 0, .int 0, .null, .int 0, .int 0, .int 0]))] : va_W), ([(q1, .inl (cy 0, 170, (.inl (fun _ => 0))))] : va_W), ([(q2, .inl (cy 0, 1020, (.inl (fun _ => 0))))] : va_W), ([(q3, .inl (cy 0, 340, (.inl (fun _ => 0))))] : va_W)] : List va_W).flatten := hD
  refine wl_putF (C := RX5) (T := TX5) (N := 13) (ci := 5) (v := .ref q3) hx hb hts in_X5 tyX5 tyX5_ok nmX5 hown hK hP hD hS 0 0 rfl rfl rfl 3 (by decide) lkf16 rfl rfl hnm rfl rfl rfl (Nat.le_of_ble_eq_true rfl) dX5_init_28 (fun H locs hP hD hS => ?_)
  have hP : va_P D vwCl ([([(h, .inr (5, [.ref q1, .ref q2, .int 0, .ref q3, .null, .null, .int 0, .int 0, .int 0, .null, .int 0, .int 0, .int 0]))] : va_W), ([(q1, .inl (cy 0, 170, (.inl (fun _ => 0))))] : va_W), ([(q2, .inl (cy 0, 1020, (.inl (fun _ => 0))))] : va_W), ([(q3, .inl (cy 0, 340, (.inl (fun _ => 0))))] : va_W)] : List va_W).flatten H := hP
  have hD : va_D A ([([(h, .inr (5, [.ref q1, .ref q2, .int 0, .ref q3, .null, .null, .int 0, .int 0, .int 0, .null, .int 0, .int 0, .int 0]))] : va_W), ([(q1, .inl (cy 0, 170, (.inl (fun _ => 0))))] : va_W), ([(q2, .inl (cy 0, 1020, (.inl (fun _ => 0))))] : va_W), ([(q3, .inl (cy 0, 340, (.inl (fun _ => 0))))] : va_W)] : List va_W).flatten := hD
  refine lv_aload_n hx hb dX5_init_31 rfl (lv_at hl 0 rfl) ?_
  refine lv_iconst (v := 2) hx hb dX5_init_32 (by decide) ?_
  refine wl_newaz hx hb lka_boolean hK hP hD hS hA 2 (Nat.le_of_ble_eq_true rfl) (Nat.le_of_ble_eq_true rfl) (Nat.le_of_ble_eq_true rfl) dX5_init_33 (fun q4 H hP hD hS => ?_)
  refine W.widen (k := 4) (n := 1532) (Nat.le_refl _) (Nat.le_refl _) ?_
  have hP : va_P D vwCl ([([(h, .inr (5, [.ref q1, .ref q2, .int 0, .ref q3, .null, .null, .int 0, .int 0, .int 0, .null, .int 0, .int 0, .int 0]))] : va_W), ([(q1, .inl (cy 0, 170, (.inl (fun _ => 0))))] : va_W), ([(q2, .inl (cy 0, 1020, (.inl (fun _ => 0))))] : va_W), ([(q3, .inl (cy 0, 340, (.inl (fun _ => 0))))] : va_W), ([(q4, .inl (cy 2, 2, (.inl (fun _ => 0))))] : va_W)] : List va_W).flatten H := hP
  have hD : va_D A ([([(h, .inr (5, [.ref q1, .ref q2, .int 0, .ref q3, .null, .null, .int 0, .int 0, .int 0, .null, .int 0, .int 0, .int 0]))] : va_W), ([(q1, .inl (cy 0, 170, (.inl (fun _ => 0))))] : va_W), ([(q2, .inl (cy 0, 1020, (.inl (fun _ => 0))))] : va_W), ([(q3, .inl (cy 0, 340, (.inl (fun _ => 0))))] : va_W), ([(q4, .inl (cy 2, 2, (.inl (fun _ => 0))))] : va_W)] : List va_W).flatten := hD
  refine wl_putF (C := RX5) (T := TX5) (N := 13) (ci := 5) (v := .ref q4) hx hb hts in_X5 tyX5 tyX5_ok nmX5 hown hK hP hD hS 0 0 rfl rfl rfl 4 (by decide) lkf19 rfl rfl hnm rfl rfl rfl (Nat.le_of_ble_eq_true rfl) dX5_init_35 (fun H locs hP hD hS => ?_)
  have hP : va_P D vwCl ([([(h, .inr (5, [.ref q1, .ref q2, .int 0, .ref q3, .ref q4, .null, .int 0, .int 0, .int 0, .null, .int 0, .int 0, .int 0]))] : va_W), ([(q1, .inl (cy 0, 170, (.inl (fun _ => 0))))] : va_W), ([(q2, .inl (cy 0, 1020, (.inl (fun _ => 0))))] : va_W), ([(q3, .inl (cy 0, 340, (.inl (fun _ => 0))))] : va_W), ([(q4, .inl (cy 2, 2, (.inl (fun _ => 0))))] : va_W)] : List va_W).flatten H := hP
  have hD : va_D A ([([(h, .inr (5, [.ref q1, .ref q2, .int 0, .ref q3, .ref q4, .null, .int 0, .int 0, .int 0, .null, .int 0, .int 0, .int 0]))] : va_W), ([(q1, .inl (cy 0, 170, (.inl (fun _ => 0))))] : va_W), ([(q2, .inl (cy 0, 1020, (.inl (fun _ => 0))))] : va_W), ([(q3, .inl (cy 0, 340, (.inl (fun _ => 0))))] : va_W), ([(q4, .inl (cy 2, 2, (.inl (fun _ => 0))))] : va_W)] : List va_W).flatten := hD
  refine lv_aload_n hx hb dX5_init_38 rfl (lv_at hl 0 rfl) ?_
  refine lv_bipush (v := 60) hx hb dX5_init_39 (by decide) ?_
  refine wl_newai hx hb lka_int hK hP hD hS hA 60 (Nat.le_of_ble_eq_true rfl) (Nat.le_of_ble_eq_true rfl) (Nat.le_of_ble_eq_true rfl) dX5_init_41 (fun q5 H hP hD hS => ?_)
  refine W.widen (k := 5) (n := 1592) (Nat.le_refl _) (Nat.le_refl _) ?_
  have hP : va_P D vwCl ([([(h, .inr (5, [.ref q1, .ref q2, .int 0, .ref q3, .ref q4, .null, .int 0, .int 0, .int 0, .null, .int 0, .int 0, .int 0]))] : va_W), ([(q1, .inl (cy 0, 170, (.inl (fun _ => 0))))] : va_W), ([(q2, .inl (cy 0, 1020, (.inl (fun _ => 0))))] : va_W), ([(q3, .inl (cy 0, 340, (.inl (fun _ => 0))))] : va_W), ([(q4, .inl (cy 2, 2, (.inl (fun _ => 0))))] : va_W), ([(q5, .inl (cy 0, 60, (.inl (fun _ => 0))))] : va_W)] : List va_W).flatten H := hP
  have hD : va_D A ([([(h, .inr (5, [.ref q1, .ref q2, .int 0, .ref q3, .ref q4, .null, .int 0, .int 0, .int 0, .null, .int 0, .int 0, .int 0]))] : va_W), ([(q1, .inl (cy 0, 170, (.inl (fun _ => 0))))] : va_W), ([(q2, .inl (cy 0, 1020, (.inl (fun _ => 0))))] : va_W), ([(q3, .inl (cy 0, 340, (.inl (fun _ => 0))))] : va_W), ([(q4, .inl (cy 2, 2, (.inl (fun _ => 0))))] : va_W), ([(q5, .inl (cy 0, 60, (.inl (fun _ => 0))))] : va_W)] : List va_W).flatten := hD
  refine wl_putF (C := RX5) (T := TX5) (N := 13) (ci := 5) (v := .ref q5) hx hb hts in_X5 tyX5 tyX5_ok nmX5 hown hK hP hD hS 0 0 rfl rfl rfl 5 (by decide) lkf23 rfl rfl hnm rfl rfl rfl (Nat.le_of_ble_eq_true rfl) dX5_init_43 (fun H locs hP hD hS => ?_)
  have hP : va_P D vwCl ([([(h, .inr (5, [.ref q1, .ref q2, .int 0, .ref q3, .ref q4, .ref q5, .int 0, .int 0, .int 0, .null, .int 0, .int 0, .int 0]))] : va_W), ([(q1, .inl (cy 0, 170, (.inl (fun _ => 0))))] : va_W), ([(q2, .inl (cy 0, 1020, (.inl (fun _ => 0))))] : va_W), ([(q3, .inl (cy 0, 340, (.inl (fun _ => 0))))] : va_W), ([(q4, .inl (cy 2, 2, (.inl (fun _ => 0))))] : va_W), ([(q5, .inl (cy 0, 60, (.inl (fun _ => 0))))] : va_W)] : List va_W).flatten H := hP
  have hD : va_D A ([([(h, .inr (5, [.ref q1, .ref q2, .int 0, .ref q3, .ref q4, .ref q5, .int 0, .int 0, .int 0, .null, .int 0, .int 0, .int 0]))] : va_W), ([(q1, .inl (cy 0, 170, (.inl (fun _ => 0))))] : va_W), ([(q2, .inl (cy 0, 1020, (.inl (fun _ => 0))))] : va_W), ([(q3, .inl (cy 0, 340, (.inl (fun _ => 0))))] : va_W), ([(q4, .inl (cy 2, 2, (.inl (fun _ => 0))))] : va_W), ([(q5, .inl (cy 0, 60, (.inl (fun _ => 0))))] : va_W)] : List va_W).flatten := hD
  refine lv_aload_n hx hb dX5_init_46 rfl (lv_at hl 0 rfl) ?_
  refine lv_iconst (v := (-1)) hx hb dX5_init_47 (by decide) ?_
  refine wl_putf (C := RX5) (T := TX5) (N := 13) (ci := 5) (v := .int (-1)) hx hb hts in_X5 tyX5 tyX5_ok nmX5 hown hK hP hD hS 0 0 rfl rfl rfl 8 (by decide) lkf26 rfl rfl rfl rfl (Nat.le_of_ble_eq_true rfl) dX5_init_48 (fun H locs hP hD hS => ?_)
  have hP : va_P D vwCl ([([(h, .inr (5, [.ref q1, .ref q2, .int 0, .ref q3, .ref q4, .ref q5, .int 0, .int 0, .int (-1), .null, .int 0, .int 0, .int 0]))] : va_W), ([(q1, .inl (cy 0, 170, (.inl (fun _ => 0))))] : va_W), ([(q2, .inl (cy 0, 1020, (.inl (fun _ => 0))))] : va_W), ([(q3, .inl (cy 0, 340, (.inl (fun _ => 0))))] : va_W), ([(q4, .inl (cy 2, 2, (.inl (fun _ => 0))))] : va_W), ([(q5, .inl (cy 0, 60, (.inl (fun _ => 0))))] : va_W)] : List va_W).flatten H := hP
  have hD : va_D A ([([(h, .inr (5, [.ref q1, .ref q2, .int 0, .ref q3, .ref q4, .ref q5, .int 0, .int 0, .int (-1), .null, .int 0, .int 0, .int 0]))] : va_W), ([(q1, .inl (cy 0, 170, (.inl (fun _ => 0))))] : va_W), ([(q2, .inl (cy 0, 1020, (.inl (fun _ => 0))))] : va_W), ([(q3, .inl (cy 0, 340, (.inl (fun _ => 0))))] : va_W), ([(q4, .inl (cy 2, 2, (.inl (fun _ => 0))))] : va_W), ([(q5, .inl (cy 0, 60, (.inl (fun _ => 0))))] : va_W)] : List va_W).flatten := hD
  refine lv_aload_n hx hb dX5_init_51 rfl (lv_at hl 0 rfl) ?_
  refine lv_bipush (v := 10) hx hb dX5_init_52 (by decide) ?_
  refine wl_newai hx hb lka_int hK hP hD hS hA 10 (Nat.le_of_ble_eq_true rfl) (Nat.le_of_ble_eq_true rfl) (Nat.le_of_ble_eq_true rfl) dX5_init_54 (fun q6 H hP hD hS => ?_)
  refine W.widen (k := 6) (n := 1602) (Nat.le_refl _) (Nat.le_refl _) ?_
  have hP : va_P D vwCl ([([(h, .inr (5, [.ref q1, .ref q2, .int 0, .ref q3, .ref q4, .ref q5, .int 0, .int 0, .int (-1), .null, .int 0, .int 0, .int 0]))] : va_W), ([(q1, .inl (cy 0, 170, (.inl (fun _ => 0))))] : va_W), ([(q2, .inl (cy 0, 1020, (.inl (fun _ => 0))))] : va_W), ([(q3, .inl (cy 0, 340, (.inl (fun _ => 0))))] : va_W), ([(q4, .inl (cy 2, 2, (.inl (fun _ => 0))))] : va_W), ([(q5, .inl (cy 0, 60, (.inl (fun _ => 0))))] : va_W), ([(q6, .inl (cy 0, 10, (.inl (fun _ => 0))))] : va_W)] : List va_W).flatten H := hP
  have hD : va_D A ([([(h, .inr (5, [.ref q1, .ref q2, .int 0, .ref q3, .ref q4, .ref q5, .int 0, .int 0, .int (-1), .null, .int 0, .int 0, .int 0]))] : va_W), ([(q1, .inl (cy 0, 170, (.inl (fun _ => 0))))] : va_W), ([(q2, .inl (cy 0, 1020, (.inl (fun _ => 0))))] : va_W), ([(q3, .inl (cy 0, 340, (.inl (fun _ => 0))))] : va_W), ([(q4, .inl (cy 2, 2, (.inl (fun _ => 0))))] : va_W), ([(q5, .inl (cy 0, 60, (.inl (fun _ => 0))))] : va_W), ([(q6, .inl (cy 0, 10, (.inl (fun _ => 0))))] : va_W)] : List va_W).flatten := hD
  refine wl_putF (C := RX5) (T := TX5) (N := 13) (ci := 5) (v := .ref q6) hx hb hts in_X5 tyX5 tyX5_ok nmX5 hown hK hP hD hS 0 0 rfl rfl rfl 9 (by decide) lkf30 rfl rfl hnm rfl rfl rfl (Nat.le_of_ble_eq_true rfl) dX5_init_56 (fun H locs hP hD hS => ?_)
  have hP : va_P D vwCl ([([(h, .inr (5, [.ref q1, .ref q2, .int 0, .ref q3, .ref q4, .ref q5, .int 0, .int 0, .int (-1), .ref q6, .int 0, .int 0, .int 0]))] : va_W), ([(q1, .inl (cy 0, 170, (.inl (fun _ => 0))))] : va_W), ([(q2, .inl (cy 0, 1020, (.inl (fun _ => 0))))] : va_W), ([(q3, .inl (cy 0, 340, (.inl (fun _ => 0))))] : va_W), ([(q4, .inl (cy 2, 2, (.inl (fun _ => 0))))] : va_W), ([(q5, .inl (cy 0, 60, (.inl (fun _ => 0))))] : va_W), ([(q6, .inl (cy 0, 10, (.inl (fun _ => 0))))] : va_W)] : List va_W).flatten H := hP
  have hD : va_D A ([([(h, .inr (5, [.ref q1, .ref q2, .int 0, .ref q3, .ref q4, .ref q5, .int 0, .int 0, .int (-1), .ref q6, .int 0, .int 0, .int 0]))] : va_W), ([(q1, .inl (cy 0, 170, (.inl (fun _ => 0))))] : va_W), ([(q2, .inl (cy 0, 1020, (.inl (fun _ => 0))))] : va_W), ([(q3, .inl (cy 0, 340, (.inl (fun _ => 0))))] : va_W), ([(q4, .inl (cy 2, 2, (.inl (fun _ => 0))))] : va_W), ([(q5, .inl (cy 0, 60, (.inl (fun _ => 0))))] : va_W), ([(q6, .inl (cy 0, 10, (.inl (fun _ => 0))))] : va_W)] : List va_W).flatten := hD
  refine lv_aload_n hx hb dX5_init_59 rfl (lv_at hl 0 rfl) ?_
  refine wl_getf (C := RX5) (T := TX5) (N := 13) (ci := 5) (v := .ref q1) hx hb hts in_X5 hown hK hP 0 0 rfl rfl rfl 0 (by decide) lkf7 rfl rfl dX5_init_60 ?_
  refine lv_bipush (v := 40) hx hb dX5_init_63 (by decide) ?_
  refine lv_bipush (v := 6) hx hb dX5_init_65 (by decide) ?_
  refine wl_iast hx hb hK hP hD hS 1 0 rfl rfl 40 (by omega) (Nat.le_of_ble_eq_true rfl) dX5_init_67 (fun H locs hP hD hS => ?_)
  have hP : va_P D vwCl ([([(h, .inr (5, [.ref q1, .ref q2, .int 0, .ref q3, .ref q4, .ref q5, .int 0, .int 0, .int (-1), .ref q6, .int 0, .int 0, .int 0]))] : va_W), ([(q1, .inl (cy 0, 170, (.inl (upd (fun _ => 0) 40 6))))] : va_W), ([(q2, .inl (cy 0, 1020, (.inl (fun _ => 0))))] : va_W), ([(q3, .inl (cy 0, 340, (.inl (fun _ => 0))))] : va_W), ([(q4, .inl (cy 2, 2, (.inl (fun _ => 0))))] : va_W), ([(q5, .inl (cy 0, 60, (.inl (fun _ => 0))))] : va_W), ([(q6, .inl (cy 0, 10, (.inl (fun _ => 0))))] : va_W)] : List va_W).flatten H := hP
  have hD : va_D A ([([(h, .inr (5, [.ref q1, .ref q2, .int 0, .ref q3, .ref q4, .ref q5, .int 0, .int 0, .int (-1), .ref q6, .int 0, .int 0, .int 0]))] : va_W), ([(q1, .inl (cy 0, 170, (.inl (upd (fun _ => 0) 40 6))))] : va_W), ([(q2, .inl (cy 0, 1020, (.inl (fun _ => 0))))] : va_W), ([(q3, .inl (cy 0, 340, (.inl (fun _ => 0))))] : va_W), ([(q4, .inl (cy 2, 2, (.inl (fun _ => 0))))] : va_W), ([(q5, .inl (cy 0, 60, (.inl (fun _ => 0))))] : va_W), ([(q6, .inl (cy 0, 10, (.inl (fun _ => 0))))] : va_W)] : List va_W).flatten := hD
  refine lv_aload_n hx hb dX5_init_68 rfl (lv_at hl 0 rfl) ?_
  refine wl_getf (C := RX5) (T := TX5) (N := 13) (ci := 5) (v := .ref q1) hx hb hts in_X5 hown hK hP 0 0 rfl rfl rfl 0 (by decide) lkf7 rfl rfl dX5_init_69 ?_
  refine lv_bipush (v := 41) hx hb dX5_init_72 (by decide) ?_
  refine lv_iconst (v := 1) hx hb dX5_init_74 (by decide) ?_
  refine wl_iast hx hb hK hP hD hS 1 0 rfl rfl 41 (by omega) (Nat.le_of_ble_eq_true rfl) dX5_init_75 (fun H locs hP hD hS => ?_)
  have hP : va_P D vwCl ([([(h, .inr (5, [.ref q1, .ref q2, .int 0, .ref q3, .ref q4, .ref q5, .int 0, .int 0, .int (-1), .ref q6, .int 0, .int 0, .int 0]))] : va_W), ([(q1, .inl (cy 0, 170, (.inl (upd (upd (fun _ => 0) 40 6) 41 1))))] : va_W), ([(q2, .inl (cy 0, 1020, (.inl (fun _ => 0))))] : va_W), ([(q3, .inl (cy 0, 340, (.inl (fun _ => 0))))] : va_W), ([(q4, .inl (cy 2, 2, (.inl (fun _ => 0))))] : va_W), ([(q5, .inl (cy 0, 60, (.inl (fun _ => 0))))] : va_W), ([(q6, .inl (cy 0, 10, (.inl (fun _ => 0))))] : va_W)] : List va_W).flatten H := hP
  have hD : va_D A ([([(h, .inr (5, [.ref q1, .ref q2, .int 0, .ref q3, .ref q4, .ref q5, .int 0, .int 0, .int (-1), .ref q6, .int 0, .int 0, .int 0]))] : va_W), ([(q1, .inl (cy 0, 170, (.inl (upd (upd (fun _ => 0) 40 6) 41 1))))] : va_W), ([(q2, .inl (cy 0, 1020, (.inl (fun _ => 0))))] : va_W), ([(q3, .inl (cy 0, 340, (.inl (fun _ => 0))))] : va_W), ([(q4, .inl (cy 2, 2, (.inl (fun _ => 0))))] : va_W), ([(q5, .inl (cy 0, 60, (.inl (fun _ => 0))))] : va_W), ([(q6, .inl (cy 0, 10, (.inl (fun _ => 0))))] : va_W)] : List va_W).flatten := hD
  refine lv_aload_n hx hb dX5_init_76 rfl (lv_at hl 0 rfl) ?_
  refine wl_getf (C := RX5) (T := TX5) (N := 13) (ci := 5) (v := .ref q1) hx hb hts in_X5 hown hK hP 0 0 rfl rfl rfl 0 (by decide) lkf7 rfl rfl dX5_init_77 ?_
  refine lv_bipush (v := 42) hx hb dX5_init_80 (by decide) ?_
  refine lv_sipush (v := 360) hx hb dX5_init_82 (by decide) ?_
  refine wl_iast hx hb hK hP hD hS 1 0 rfl rfl 42 (by omega) (Nat.le_of_ble_eq_true rfl) dX5_init_85 (fun H locs hP hD hS => ?_)
  have hP : va_P D vwCl ([([(h, .inr (5, [.ref q1, .ref q2, .int 0, .ref q3, .ref q4, .ref q5, .int 0, .int 0, .int (-1), .ref q6, .int 0, .int 0, .int 0]))] : va_W), ([(q1, .inl (cy 0, 170, (.inl (upd (upd (upd (fun _ => 0) 40 6) 41 1) 42 360))))] : va_W), ([(q2, .inl (cy 0, 1020, (.inl (fun _ => 0))))] : va_W), ([(q3, .inl (cy 0, 340, (.inl (fun _ => 0))))] : va_W), ([(q4, .inl (cy 2, 2, (.inl (fun _ => 0))))] : va_W), ([(q5, .inl (cy 0, 60, (.inl (fun _ => 0))))] : va_W), ([(q6, .inl (cy 0, 10, (.inl (fun _ => 0))))] : va_W)] : List va_W).flatten H := hP
  have hD : va_D A ([([(h, .inr (5, [.ref q1, .ref q2, .int 0, .ref q3, .ref q4, .ref q5, .int 0, .int 0, .int (-1), .ref q6, .int 0, .int 0, .int 0]))] : va_W), ([(q1, .inl (cy 0, 170, (.inl (upd (upd (upd (fun _ => 0) 40 6) 41 1) 42 360))))] : va_W), ([(q2, .inl (cy 0, 1020, (.inl (fun _ => 0))))] : va_W), ([(q3, .inl (cy 0, 340, (.inl (fun _ => 0))))] : va_W), ([(q4, .inl (cy 2, 2, (.inl (fun _ => 0))))] : va_W), ([(q5, .inl (cy 0, 60, (.inl (fun _ => 0))))] : va_W), ([(q6, .inl (cy 0, 10, (.inl (fun _ => 0))))] : va_W)] : List va_W).flatten := hD
  have hP : va_P D vwCl ([moW cy (q_a7 h q1 q2 q3 q4 q5 q6) q_m0] : List va_W).flatten H := hP
  have hD : va_D A ([moW cy (q_a7 h q1 q2 q3 q4 q5 q6) q_m0] : List va_W).flatten := hD
  exact wl_Rv (bs := [moW cy (q_a7 h q1 q2 q3 q4 q5 q6) q_m0]) hx hb hr hlocks hAe hP hD hS (by exact ⟨q_a7 h q1 q2 q3 q4 q5 q6, rfl, rfl⟩) dX5_init_86
