/-! the law: all is whole -/
set_option maxHeartbeats 8000000 in
set_option maxRecDepth 100000 in
theorem m_L_isWhole (l : Launch) (D : va_G) (cy : Nat → ClassId) (x : Nat) (sa ja ta : Nat → Nat) (h q : Nat) (v : Nat → Nat → Int32) (z g n T : Nat) (hok : p_ok v n T) (hT : T ≤ 1000) : Met l yL_isWhole wsL_isWhole ({ frames := 4, cells := 0, slots := 0, locals := 89 } : Room) (wl_pc D cy [([(x, .inr (4, [.ref (sa 0), .ref (ja 0), .ref (ta 0), .ref h, .ref q]))] : va_W), stW cy sa v, ([(h, .inr (0, [.ref g, .int (nI z)]))] : va_W)] [.ref x]) (vp_Si (fun r : Int32 => r = 1)) 0 0 (fun _ => False) := by
  refine wl_ofP (cc := cL_isWhole) (maxL := 8) (ret := (some .boolean)) (by decide) rfl (Nat.le_of_ble_eq_true rfl) ?_
  intro p e s m below meth c ls hx hb hr hts hown hlocks hml hP hK hl
  have hl : lv_has ls 8 [(0, .ref x)] := hl
  obtain ⟨cset, hc, hc5⟩ := hok.2.2.2.2.2.1
  have hs : ¬ v 5 2 < 0 := by rw [hc5]; exact nI_pos (by omega)
  have hn2 := hok.1
  refine lv_iconst (v := 0) hx hb dL_isWhole_0 (by decide) ?_
  refine lv_istore_n (lv' := [(1, .int 0), (0, .ref x)]) hx hb dL_isWhole_1 rfl hl (by decide) rfl (fun ls hl => ?_)
  refine lv_iconst (v := 0) hx hb dL_isWhole_2 (by decide) ?_
  refine lv_istore_n (lv' := [(2, .int 0), (1, .int 0), (0, .ref x)]) hx hb dL_isWhole_3 rfl hl (by decide) rfl (fun ls hl => ?_)
  refine lv_iconst (v := 0) hx hb dL_isWhole_4 (by decide) ?_
  refine lv_istore_n (lv' := [(3, .int 0), (2, .int 0), (1, .int 0), (0, .ref x)]) hx hb dL_isWhole_5 rfl hl (by decide) rfl (fun ls hl => ?_)
  refine lv_iconst (v := 1) hx hb dL_isWhole_6 (by decide) ?_
  refine lv_istore (lv' := [(4, .int 1), (3, .int 0), (2, .int 0), (1, .int 0), (0, .ref x)]) hx hb dL_isWhole_7 hl (by decide) rfl (fun ls hl => ?_)
  refine lv_iconst (v := 0) hx hb dL_isWhole_9 (by decide) ?_
  refine lv_istore (lv' := [(5, .int 0), (4, .int 1), (3, .int 0), (2, .int 0), (1, .int 0), (0, .ref x)]) hx hb dL_isWhole_10 hl (by decide) rfl (fun ls hl => ?_)
  suffices K1 : ∀ (n2 : Nat) (i : Nat), 8 - i < n2 → (i ≤ 8) → ∀ (ls : Array Slot), lv_has ls 8 [(5, .int (nI i)), (4, .int 1), (3, .int (q_cnt (v 3) i)), (2, .int (q_sum2 (fun a9 b9 => q_shn v (q_br (v 3 a9) (nI b9)) (q_cw v)) i)), (1, .int (q_sum2 (fun a9 b9 => q_br (v 3 a9) (nI b9)) i)), (0, .ref x)] → W p l e ({ frames := 4, cells := 0, slots := 0, locals := 89 } : Room) s m ([.ref x] : List Value).toArray below meth c s.heap [] 0 0 (MQ below (vp_Si (fun r : Int32 => r = 1)) ([.ref x] : List Value).toArray s 0 0 (fun _ => False)) (F0 m 12 ls []) from K1 9 0 (by omega) (by omega) _  (lv_sub hl [0, 1, 2, 3, 4, 5] rfl)
  intro n2
  induction n2 with
  | zero => intro i hm; exact absurd hm (Nat.not_lt_zero _)
  | succ n2 ih3 =>
    intro i hm hi ls  hl
    refine lv_iload hx hb dL_isWhole_12 (lv_at hl 0 rfl) ?_
    refine lv_bipush (v := 8) hx hb dL_isWhole_14 (by decide) ?_
    refine wl_icmp_ge (tgt := 261) hx hb i 8 dL_isWhole_16 (by decide) (by omega) (by omega) (fun c4 => ?_) (fun c4 => ?_)
    · obtain rfl : i = 8 := by omega
      refine lv_iload hx hb dL_isWhole_261 (lv_at hl 1 rfl) ?_
      refine wl_if_eq (tgt := 396) hx hb 1 dL_isWhole_263 (by decide) (by omega) (fun c5 => absurd c5 (by omega)) (fun c5 => ?_)
      refine lv_aload_n hx hb dL_isWhole_266 rfl (lv_at hl 5 rfl) ?_
      refine lv_bipush (v := 6) hx hb dL_isWhole_267 (by decide) ?_
      refine wl_pV (As := [.int 6]) (rest := []) ⟨hx, hb, hml, hown, hts⟩ (m_X4_cnt6 l D cy x sa ja ta h q v z g ) (cwV 1 hts gL_isWhole_X4_count rfl rfl rfl (by decide +kernel) ⟨Nat.le_of_ble_eq_true rfl, Nat.le_of_ble_eq_true rfl⟩) hK hP [0, 1, 2] rfl rfl rfl rfl rfl rfl hl.1 rfl (Nat.le_of_ble_eq_true rfl) dL_isWhole_269 ⟨Nat.le_of_ble_eq_true rfl, Nat.le_of_ble_eq_true rfl⟩ (fun r6 er6 => ?_)
      have er6 : r6 = q_cw v := er6
      subst er6
      refine lv_iload_n hx hb dL_isWhole_272 rfl (lv_at hl 4 rfl) ?_
      refine lv_icmp_ne (tgt := 396) hx hb dL_isWhole_273 (by decide) (fun c7 => absurd rfl c7) (fun c7 => ?_)
      refine lv_aload_n hx hb dL_isWhole_276 rfl (lv_at hl 5 rfl) ?_
      refine lv_bipush (v := 7) hx hb dL_isWhole_277 (by decide) ?_
      refine wl_pV (As := [.int 7]) (rest := []) ⟨hx, hb, hml, hown, hts⟩ (m_X4_cnt7 l D cy x sa ja ta h q v z g ) (cwV 1 hts gL_isWhole_X4_count rfl rfl rfl (by decide +kernel) ⟨Nat.le_of_ble_eq_true rfl, Nat.le_of_ble_eq_true rfl⟩) hK hP [0, 1, 2] rfl rfl rfl rfl rfl rfl hl.1 rfl (Nat.le_of_ble_eq_true rfl) dL_isWhole_279 ⟨Nat.le_of_ble_eq_true rfl, Nat.le_of_ble_eq_true rfl⟩ (fun r8 er8 => ?_)
      have er8 : r8 = q_st v := er8
      subst er8
      refine lv_iload_n hx hb dL_isWhole_282 rfl (lv_at hl 3 rfl) ?_
      refine lv_icmp_ne (tgt := 396) hx hb dL_isWhole_283 (by decide) (fun c9 => absurd rfl c9) (fun c9 => ?_)
      refine lv_aload_n hx hb dL_isWhole_286 rfl (lv_at hl 5 rfl) ?_
      refine lv_bipush (v := 8) hx hb dL_isWhole_287 (by decide) ?_
      refine wl_pV (As := [.int 8]) (rest := []) ⟨hx, hb, hml, hown, hts⟩ (m_X4_cnt8 l D cy x sa ja ta h q v z g ) (cwV 1 hts gL_isWhole_X4_count rfl rfl rfl (by decide +kernel) ⟨Nat.le_of_ble_eq_true rfl, Nat.le_of_ble_eq_true rfl⟩) hK hP [0, 1, 2] rfl rfl rfl rfl rfl rfl hl.1 rfl (Nat.le_of_ble_eq_true rfl) dL_isWhole_289 ⟨Nat.le_of_ble_eq_true rfl, Nat.le_of_ble_eq_true rfl⟩ (fun r10 er10 => ?_)
      have er10 : r10 = q_cnt (v 3) 8 := er10
      subst er10
      refine lv_iload_n hx hb dL_isWhole_292 rfl (lv_at hl 2 rfl) ?_
      refine lv_icmp_ne (tgt := 396) hx hb dL_isWhole_293 (by decide) (fun c11 => absurd rfl c11) (fun c11 => ?_)
      refine lv_iload_n hx hb dL_isWhole_296 rfl (lv_at hl 3 rfl) ?_
      refine lv_aload_n hx hb dL_isWhole_297 rfl (lv_at hl 5 rfl) ?_
      refine lv_iconst (v := 2) hx hb dL_isWhole_298 (by decide) ?_
      refine wl_pV (As := [.int 2]) (rest := [.int (q_sum2 (fun a9 b9 => q_shn v (q_br (v 3 a9) (nI b9)) (q_cw v)) 8)]) ⟨hx, hb, hml, hown, hts⟩ (m_X4_set2n l D cy x sa ja ta h q v cset hc5) (cwV 1 hts gL_isWhole_X4_setting rfl rfl rfl (by decide +kernel) ⟨Nat.le_of_ble_eq_true rfl, Nat.le_of_ble_eq_true rfl⟩) hK hP [0, 1] rfl rfl rfl rfl rfl rfl hl.1 rfl (Nat.le_of_ble_eq_true rfl) dL_isWhole_299 ⟨Nat.le_of_ble_eq_true rfl, Nat.le_of_ble_eq_true rfl⟩ (fun r12 er12 => ?_)
      have er12 : r12 = nI cset := er12
      subst er12
      refine lv_iload_n hx hb dL_isWhole_302 rfl (lv_at hl 4 rfl) ?_
      refine lv_aload_n hx hb dL_isWhole_303 rfl (lv_at hl 5 rfl) ?_
      refine lv_iconst (v := 2) hx hb dL_isWhole_304 (by decide) ?_
      refine wl_pV (As := [.int 2]) (rest := [.int (q_sum2 (fun a9 b9 => q_br (v 3 a9) (nI b9)) 8), .int (nI cset), .int (q_sum2 (fun a9 b9 => q_shn v (q_br (v 3 a9) (nI b9)) (q_cw v)) 8)]) ⟨hx, hb, hml, hown, hts⟩ (m_X4_set2n l D cy x sa ja ta h q v cset hc5) (cwV 1 hts gL_isWhole_X4_setting rfl rfl rfl (by decide +kernel) ⟨Nat.le_of_ble_eq_true rfl, Nat.le_of_ble_eq_true rfl⟩) hK hP [0, 1] rfl rfl rfl rfl rfl rfl hl.1 rfl (Nat.le_of_ble_eq_true rfl) dL_isWhole_305 ⟨Nat.le_of_ble_eq_true rfl, Nat.le_of_ble_eq_true rfl⟩ (fun r13 er13 => ?_)
      have er13 : r13 = nI cset := er13
      subst er13
      have K16 : ∀ (ls : Array Slot) (v15 : Int32), v15 = (if (q_sum2 (fun a9 b9 => q_br (v 3 a9) (nI b9)) 8) ≤ (nI cset) then 360 else 0) → lv_has ls 8 [(0, .ref x)] → W p l e ({ frames := 4, cells := 0, slots := 0, locals := 89 } : Room) s m ([.ref x] : List Value).toArray below meth c s.heap [] 0 0 (MQ below (vp_Si (fun r : Int32 => r = 1)) ([.ref x] : List Value).toArray s 0 0 (fun _ => False)) (F0 m 318 ls [.int v15, .int (nI cset), .int (q_sum2 (fun a9 b9 => q_shn v (q_br (v 3 a9) (nI b9)) (q_cw v)) 8)]) := by
        intro ls v15 ev15  hl
        have hsh : ¬ nI cset + v15 < q_st v := by rw [ev15]; exact p_shown hc5 hc
        refine lv_iadd hx hb dL_isWhole_318 ?_
        refine lv_icmp_gt (tgt := 396) hx hb dL_isWhole_319 (by decide) (fun c17 => absurd c17 hsh) (fun c17 => ?_)
        refine lv_aload_n hx hb dL_isWhole_322 rfl (lv_at hl 0 rfl) ?_
        refine lv_iconst (v := 2) hx hb dL_isWhole_323 (by decide) ?_
        refine wl_pV (As := [.int 2]) (rest := []) ⟨hx, hb, hml, hown, hts⟩ (m_X4_cnt2 l D cy x sa ja ta h q v z g ) (cwV 1 hts gL_isWhole_X4_count rfl rfl rfl (by decide +kernel) ⟨Nat.le_of_ble_eq_true rfl, Nat.le_of_ble_eq_true rfl⟩) hK hP [0, 1, 2] rfl rfl rfl rfl rfl rfl hl.1 rfl (Nat.le_of_ble_eq_true rfl) dL_isWhole_324 ⟨Nat.le_of_ble_eq_true rfl, Nat.le_of_ble_eq_true rfl⟩ (fun r18 er18 => ?_)
        have er18 : r18 = v 7 2 + v 7 3 + v 7 4 + v 7 0 := er18
        subst er18
        refine lv_aload_n hx hb dL_isWhole_327 rfl (lv_at hl 0 rfl) ?_
        refine lv_iconst (v := 0) hx hb dL_isWhole_328 (by decide) ?_
        refine wl_pV (As := [.int 0]) (rest := [.int (v 7 2 + v 7 3 + v 7 4 + v 7 0)]) ⟨hx, hb, hml, hown, hts⟩ (m_X4_cnt0 l D cy x sa ja ta h q v z g ) (cwV 1 hts gL_isWhole_X4_count rfl rfl rfl (by decide +kernel) ⟨Nat.le_of_ble_eq_true rfl, Nat.le_of_ble_eq_true rfl⟩) hK hP [0, 1, 2] rfl rfl rfl rfl rfl rfl hl.1 rfl (Nat.le_of_ble_eq_true rfl) dL_isWhole_329 ⟨Nat.le_of_ble_eq_true rfl, Nat.le_of_ble_eq_true rfl⟩ (fun r19 er19 => ?_)
        have er19 : r19 = v 7 0 := er19
        subst er19
        refine lv_aload_n hx hb dL_isWhole_332 rfl (lv_at hl 0 rfl) ?_
        refine lv_iconst (v := 3) hx hb dL_isWhole_333 (by decide) ?_
        refine wl_pV (As := [.int 3]) (rest := [.int (v 7 0), .int (v 7 2 + v 7 3 + v 7 4 + v 7 0)]) ⟨hx, hb, hml, hown, hts⟩ (m_X4_cnt3 l D cy x sa ja ta h q v z g ) (cwV 1 hts gL_isWhole_X4_count rfl rfl rfl (by decide +kernel) ⟨Nat.le_of_ble_eq_true rfl, Nat.le_of_ble_eq_true rfl⟩) hK hP [0, 1, 2] rfl rfl rfl rfl rfl rfl hl.1 rfl (Nat.le_of_ble_eq_true rfl) dL_isWhole_334 ⟨Nat.le_of_ble_eq_true rfl, Nat.le_of_ble_eq_true rfl⟩ (fun r20 er20 => ?_)
        have er20 : r20 = v 7 2 := er20
        subst er20
        refine lv_iadd hx hb dL_isWhole_337 ?_
        refine lv_aload_n hx hb dL_isWhole_338 rfl (lv_at hl 0 rfl) ?_
        refine lv_iconst (v := 4) hx hb dL_isWhole_339 (by decide) ?_
        refine wl_pV (As := [.int 4]) (rest := [.int ((v 7 0) + (v 7 2)), .int (v 7 2 + v 7 3 + v 7 4 + v 7 0)]) ⟨hx, hb, hml, hown, hts⟩ (m_X4_cnt4 l D cy x sa ja ta h q v z g ) (cwV 1 hts gL_isWhole_X4_count rfl rfl rfl (by decide +kernel) ⟨Nat.le_of_ble_eq_true rfl, Nat.le_of_ble_eq_true rfl⟩) hK hP [0, 1, 2] rfl rfl rfl rfl rfl rfl hl.1 rfl (Nat.le_of_ble_eq_true rfl) dL_isWhole_340 ⟨Nat.le_of_ble_eq_true rfl, Nat.le_of_ble_eq_true rfl⟩ (fun r21 er21 => ?_)
        have er21 : r21 = v 7 3 := er21
        subst er21
        refine lv_iadd hx hb dL_isWhole_343 ?_
        refine lv_aload_n hx hb dL_isWhole_344 rfl (lv_at hl 0 rfl) ?_
        refine lv_iconst (v := 5) hx hb dL_isWhole_345 (by decide) ?_
        refine wl_pV (As := [.int 5]) (rest := [.int (((v 7 0) + (v 7 2)) + (v 7 3)), .int (v 7 2 + v 7 3 + v 7 4 + v 7 0)]) ⟨hx, hb, hml, hown, hts⟩ (m_X4_cnt5 l D cy x sa ja ta h q v z g ) (cwV 1 hts gL_isWhole_X4_count rfl rfl rfl (by decide +kernel) ⟨Nat.le_of_ble_eq_true rfl, Nat.le_of_ble_eq_true rfl⟩) hK hP [0, 1, 2] rfl rfl rfl rfl rfl rfl hl.1 rfl (Nat.le_of_ble_eq_true rfl) dL_isWhole_346 ⟨Nat.le_of_ble_eq_true rfl, Nat.le_of_ble_eq_true rfl⟩ (fun r22 er22 => ?_)
        have er22 : r22 = v 7 4 := er22
        subst er22
        refine lv_iadd hx hb dL_isWhole_349 ?_
        refine lv_icmp_ne (tgt := 396) hx hb dL_isWhole_350 (by decide) (fun c23 => absurd (p_add4 _ _ _ _) c23) (fun c23 => ?_)
        refine lv_aload_n hx hb dL_isWhole_353 rfl (lv_at hl 0 rfl) ?_
        refine lv_iconst (v := 3) hx hb dL_isWhole_354 (by decide) ?_
        refine wl_pV (As := [.int 3]) (rest := []) ⟨hx, hb, hml, hown, hts⟩ (m_X4_cnt3n l D cy x sa ja ta h q v z g T hok.2.2.2.2.2.2) (cwV 1 hts gL_isWhole_X4_count rfl rfl rfl (by decide +kernel) ⟨Nat.le_of_ble_eq_true rfl, Nat.le_of_ble_eq_true rfl⟩) hK hP [0, 1, 2] rfl rfl rfl rfl rfl rfl hl.1 rfl (Nat.le_of_ble_eq_true rfl) dL_isWhole_355 ⟨Nat.le_of_ble_eq_true rfl, Nat.le_of_ble_eq_true rfl⟩ (fun r24 er24 => ?_)
        have er24 : r24 = nI (12 * T) := er24
        subst er24
        refine lv_bipush (v := 12) hx hb dL_isWhole_358 (by decide) ?_
        refine lv_irem hx hb dL_isWhole_360 (by decide) ?_
        refine wl_top (y := nI ((12 * T) % 12)) (pk_rem (a := 12 * T) (d := 12) (by omega) (by omega) (by omega)) ?_
        refine wl_if_ne (tgt := 396) hx hb ((12 * T) % 12) dL_isWhole_361 (by decide) (by omega) (fun c25 => absurd c25 (by omega)) (fun c25 => ?_)
        refine lv_aload_n hx hb dL_isWhole_364 rfl (lv_at hl 0 rfl) ?_
        refine lv_iconst (v := 0) hx hb dL_isWhole_365 (by decide) ?_
        refine wl_pV (As := [.int 0]) (rest := []) ⟨hx, hb, hml, hown, hts⟩ (m_X4_cnt0n l D cy x sa ja ta h q v z g n hok.2.1) (cwV 1 hts gL_isWhole_X4_count rfl rfl rfl (by decide +kernel) ⟨Nat.le_of_ble_eq_true rfl, Nat.le_of_ble_eq_true rfl⟩) hK hP [0, 1, 2] rfl rfl rfl rfl rfl rfl hl.1 rfl (Nat.le_of_ble_eq_true rfl) dL_isWhole_366 ⟨Nat.le_of_ble_eq_true rfl, Nat.le_of_ble_eq_true rfl⟩ (fun r26 er26 => ?_)
        have er26 : r26 = nI n := er26
        subst er26
        refine lv_bipush (v := 120) hx hb dL_isWhole_369 (by decide) ?_
        refine wl_icmp_gt (tgt := 396) hx hb n 120 dL_isWhole_371 (by decide) (by omega) (by omega) (fun c27 => absurd c27 (by omega)) (fun c27 => ?_)
        refine lv_aload_n hx hb dL_isWhole_374 rfl (lv_at hl 0 rfl) ?_
        refine wl_pVd (As := []) (rest := []) ⟨hx, hb, hml, hown, hts⟩ (m_X4_brightness l D cy x sa ja ta h q v (q_stF hs).1) (cwV 0 hts gL_isWhole_X4_brightness rfl rfl rfl (by decide +kernel) ⟨Nat.le_of_ble_eq_true rfl, Nat.le_of_ble_eq_true rfl⟩) hK hP [0, 1] rfl rfl rfl rfl rfl rfl hl.1 rfl (Nat.le_of_ble_eq_true rfl) dL_isWhole_375 ⟨Nat.le_of_ble_eq_true rfl, Nat.le_of_ble_eq_true rfl⟩ (fun r28 er28 => ?_)
        have er28 : r28 = FP.ddiv (FP.i2d (q_st v)) 4645040803167600640 := er28
        subst er28
        refine lv_dconst0 hx hb dL_isWhole_378 ?_
        refine lv_dcmp hx hb dL_isWhole_379 ?_
        refine lv_if_lt (tgt := 396) hx hb dL_isWhole_380 (by decide) (fun c29 => absurd c29 (p_bri hs).1) (fun c29 => ?_)
        refine lv_aload_n hx hb dL_isWhole_383 rfl (lv_at hl 0 rfl) ?_
        refine wl_pVd (As := []) (rest := []) ⟨hx, hb, hml, hown, hts⟩ (m_X4_brightness l D cy x sa ja ta h q v (q_stF hs).1) (cwV 0 hts gL_isWhole_X4_brightness rfl rfl rfl (by decide +kernel) ⟨Nat.le_of_ble_eq_true rfl, Nat.le_of_ble_eq_true rfl⟩) hK hP [0, 1] rfl rfl rfl rfl rfl rfl hl.1 rfl (Nat.le_of_ble_eq_true rfl) dL_isWhole_384 ⟨Nat.le_of_ble_eq_true rfl, Nat.le_of_ble_eq_true rfl⟩ (fun r30 er30 => ?_)
        have er30 : r30 = FP.ddiv (FP.i2d (q_st v)) 4645040803167600640 := er30
        subst er30
        refine lv_dconst1 hx hb dL_isWhole_387 ?_
        refine lv_dcmp hx hb dL_isWhole_388 ?_
        refine lv_if_gt (tgt := 396) hx hb dL_isWhole_389 (by decide) (fun c31 => absurd c31 (p_bri hs).2) (fun c31 => ?_)
        refine lv_iconst (v := 1) hx hb dL_isWhole_392 (by decide) ?_
        refine lv_goto (tgt := 397) hx hb dL_isWhole_393 (by decide) ?_
        exact wl_rz (r := 1) (True) hx hb hr hlocks (by rfl) (by subst ev15; rfl) dL_isWhole_397
      refine lv_icmp_le (tgt := 315) hx hb dL_isWhole_308 (by decide) (fun c14 => ?_) (fun c14 => ?_)
      · refine lv_sipush (v := 360) hx hb dL_isWhole_315 (by decide) ?_
        exact K16 _ 360 (by rw [if_pos c14]) (lv_sub hl [5] rfl)
      · refine lv_iconst (v := 0) hx hb dL_isWhole_311 (by decide) ?_
        refine lv_goto (tgt := 318) hx hb dL_isWhole_312 (by decide) ?_
        exact K16 _ 0 (by rw [if_neg c14]) (lv_sub hl [5] rfl)
    · refine lv_iload hx hb dL_isWhole_19 (lv_at hl 1 rfl) ?_
      refine wl_if_eq (tgt := 261) hx hb 1 dL_isWhole_21 (by decide) (by omega) (fun c32 => absurd c32 (by decide)) (fun c32 => ?_)
      have hi8 : i < 8 := by omega
      obtain ⟨mw, hmw, em⟩ := hok.2.2.2.1 i hi8
      obtain ⟨mk, hmk, em2⟩ := hok.2.2.1 i hi8
      refine lv_aload_n hx hb dL_isWhole_24 rfl (lv_at hl 5 rfl) ?_
      refine lv_iload hx hb dL_isWhole_25 (lv_at hl 0 rfl) ?_
      refine lv_iconst (v := 3) hx hb dL_isWhole_27 (by decide) ?_
      refine wl_pV (As := [.int (nI i), .int 3]) (rest := []) ⟨hx, hb, hml, hown, hts⟩ (m_X4_lof3n l D cy x sa ja ta h q v i mw (by omega) em) (cwV 2 hts gL_isWhole_X4_lampOf rfl rfl rfl (by decide +kernel) ⟨Nat.le_of_ble_eq_true rfl, Nat.le_of_ble_eq_true rfl⟩) hK hP [0, 1] rfl rfl rfl rfl rfl rfl hl.1 rfl (Nat.le_of_ble_eq_true rfl) dL_isWhole_28 ⟨Nat.le_of_ble_eq_true rfl, Nat.le_of_ble_eq_true rfl⟩ (fun r33 er33 => ?_)
      have er33 : r33 = nI mw := er33
      subst er33
      refine lv_istore (lv' := [(6, .int (nI mw)), (5, .int (nI i)), (4, .int 1), (3, .int (q_cnt (v 3) i)), (2, .int (q_sum2 (fun a9 b9 => q_shn v (q_br (v 3 a9) (nI b9)) (q_cw v)) i)), (1, .int (q_sum2 (fun a9 b9 => q_br (v 3 a9) (nI b9)) i)), (0, .ref x)]) hx hb dL_isWhole_31 hl (by decide) rfl (fun ls hl => ?_)
      refine lv_iload_n hx hb dL_isWhole_33 rfl (lv_at hl 5 rfl) ?_
      refine lv_iload hx hb dL_isWhole_34 (lv_at hl 0 rfl) ?_
      refine lv_sipush (v := 256) hx hb dL_isWhole_36 (by decide) ?_
      refine lv_idiv hx hb dL_isWhole_39 (by decide) ?_
      refine wl_top (y := nI (mw / 256)) (pk_div (a := mw) (d := 256) (by omega) (by omega) (by omega)) ?_
      refine lv_iload hx hb dL_isWhole_40 (lv_at hl 0 rfl) ?_
      refine lv_bipush (v := 16) hx hb dL_isWhole_42 (by decide) ?_
      refine lv_idiv hx hb dL_isWhole_44 (by decide) ?_
      refine wl_top (y := nI (mw / 16)) (pk_div (a := mw) (d := 16) (by omega) (by omega) (by omega)) ?_
      refine lv_bipush (v := 16) hx hb dL_isWhole_45 (by decide) ?_
      refine lv_irem hx hb dL_isWhole_47 (by decide) ?_
      refine wl_top (y := nI ((mw / 16) % 16)) (pk_rem (a := mw / 16) (d := 16) (by omega) (by omega) (by omega)) ?_
      refine lv_iadd hx hb dL_isWhole_48 ?_
      refine wl_top (y := nI ((mw / 256) + ((mw / 16) % 16))) (nI_add (mw / 256) ((mw / 16) % 16)) ?_
      refine lv_iload hx hb dL_isWhole_49 (lv_at hl 0 rfl) ?_
      refine lv_bipush (v := 16) hx hb dL_isWhole_51 (by decide) ?_
      refine lv_irem hx hb dL_isWhole_53 (by decide) ?_
      refine wl_top (y := nI (mw % 16)) (pk_rem (a := mw) (d := 16) (by omega) (by omega) (by omega)) ?_
      refine lv_iadd hx hb dL_isWhole_54 ?_
      refine wl_top (y := nI (((mw / 256) + ((mw / 16) % 16)) + (mw % 16))) (nI_add ((mw / 256) + ((mw / 16) % 16)) (mw % 16)) ?_
      refine lv_iadd hx hb dL_isWhole_55 ?_
      refine wl_top (y := q_sum2 (fun a9 b9 => q_br (v 3 a9) (nI b9)) (i + 1)) (p_want em hmw) ?_
      refine lv_istore_n (lv' := [(1, .int (q_sum2 (fun a9 b9 => q_br (v 3 a9) (nI b9)) (i + 1))), (6, .int (nI mw)), (5, .int (nI i)), (4, .int 1), (3, .int (q_cnt (v 3) i)), (2, .int (q_sum2 (fun a9 b9 => q_shn v (q_br (v 3 a9) (nI b9)) (q_cw v)) i)), (0, .ref x)]) hx hb dL_isWhole_56 rfl hl (by decide) rfl (fun ls hl => ?_)
      refine lv_iload_n hx hb dL_isWhole_57 rfl (lv_at hl 4 rfl) ?_
      refine lv_iload hx hb dL_isWhole_58 (lv_at hl 1 rfl) ?_
      have K36 : ∀ (ls : Array Slot) (v35 : Int32), v35 = (if mw = 0 then 0 else 1) → lv_has ls 8 [(1, .int (q_sum2 (fun a9 b9 => q_br (v 3 a9) (nI b9)) (i + 1))), (6, .int (nI mw)), (5, .int (nI i)), (4, .int 1), (2, .int (q_sum2 (fun a9 b9 => q_shn v (q_br (v 3 a9) (nI b9)) (q_cw v)) i)), (0, .ref x)] → W p l e ({ frames := 4, cells := 0, slots := 0, locals := 89 } : Room) s m ([.ref x] : List Value).toArray below meth c s.heap [] 0 0 (MQ below (vp_Si (fun r : Int32 => r = 1)) ([.ref x] : List Value).toArray s 0 0 (fun _ => False)) (F0 m 68 ls [.int v35, .int (q_cnt (v 3) i)]) := by
        intro ls v35 ev35  hl
        refine lv_iadd hx hb dL_isWhole_68 ?_
        refine wl_top (y := q_cnt (v 3) (i + 1)) (by rw [ev35]; exact p_cntN em hmw) ?_
        refine lv_istore_n (lv' := [(3, .int (q_cnt (v 3) (i + 1))), (1, .int (q_sum2 (fun a9 b9 => q_br (v 3 a9) (nI b9)) (i + 1))), (6, .int (nI mw)), (5, .int (nI i)), (4, .int 1), (2, .int (q_sum2 (fun a9 b9 => q_shn v (q_br (v 3 a9) (nI b9)) (q_cw v)) i)), (0, .ref x)]) hx hb dL_isWhole_69 rfl hl (by decide) rfl (fun ls hl => ?_)
        refine lv_iconst (v := 0) hx hb dL_isWhole_70 (by decide) ?_
        refine lv_istore (lv' := [(7, .int 0), (3, .int (q_cnt (v 3) (i + 1))), (1, .int (q_sum2 (fun a9 b9 => q_br (v 3 a9) (nI b9)) (i + 1))), (6, .int (nI mw)), (5, .int (nI i)), (4, .int 1), (2, .int (q_sum2 (fun a9 b9 => q_shn v (q_br (v 3 a9) (nI b9)) (q_cw v)) i)), (0, .ref x)]) hx hb dL_isWhole_71 hl (by decide) rfl (fun ls hl => ?_)
        suffices K37 : ∀ (n38 : Nat) (k : Nat), 3 - k < n38 → (k ≤ 3) → ∀ (ls : Array Slot), lv_has ls 8 [(7, .int (nI k)), (3, .int (q_cnt (v 3) (i + 1))), (1, .int (q_sum2 (fun a9 b9 => q_br (v 3 a9) (nI b9)) (i + 1))), (6, .int (nI mw)), (5, .int (nI i)), (4, .int 1), (2, .int (q_in (fun b9 => q_shn v (q_br (v 3 i) (nI b9)) (q_cw v)) k (q_sum2 (fun a9 b9 => q_shn v (q_br (v 3 a9) (nI b9)) (q_cw v)) i))), (0, .ref x)] → W p l e ({ frames := 4, cells := 0, slots := 0, locals := 89 } : Room) s m ([.ref x] : List Value).toArray below meth c s.heap [] 0 0 (MQ below (vp_Si (fun r : Int32 => r = 1)) ([.ref x] : List Value).toArray s 0 0 (fun _ => False)) (F0 m 73 ls []) from K37 4 0 (by omega) (by omega) _  (lv_sub hl [0, 1, 2, 3, 4, 5, 6, 7] rfl)
        intro n38
        induction n38 with
        | zero => intro k hm; exact absurd hm (Nat.not_lt_zero _)
        | succ n38 ih39 =>
          intro k hm hk ls  hl
          refine lv_iload hx hb dL_isWhole_73 (lv_at hl 0 rfl) ?_
          refine lv_iconst (v := 3) hx hb dL_isWhole_75 (by decide) ?_
          refine wl_icmp_ge (tgt := 149) hx hb k 3 dL_isWhole_76 (by decide) (by omega) (by omega) (fun c40 => ?_) (fun c40 => ?_)
          · obtain rfl : k = 3 := by omega
            refine lv_iload hx hb dL_isWhole_149 (lv_at hl 5 rfl) ?_
            refine wl_if_eq (tgt := 252) hx hb 1 dL_isWhole_151 (by decide) (by omega) (fun c41 => absurd c41 (by decide)) (fun c41 => ?_)
            refine lv_iload hx hb dL_isWhole_154 (lv_at hl 3 rfl) ?_
            refine wl_if_lt (tgt := 252) hx hb mw dL_isWhole_156 (by decide) (by omega) ?_
            refine lv_iload hx hb dL_isWhole_159 (lv_at hl 3 rfl) ?_
            refine lv_sipush (v := 4096) hx hb dL_isWhole_161 (by decide) ?_
            refine wl_icmp_ge (tgt := 252) hx hb mw 4096 dL_isWhole_164 (by decide) (by omega) (by omega) (fun c43 => absurd c43 (by omega)) (fun c43 => ?_)
            refine lv_aload_n hx hb dL_isWhole_167 rfl (lv_at hl 7 rfl) ?_
            refine lv_iload hx hb dL_isWhole_168 (lv_at hl 4 rfl) ?_
            refine lv_iconst (v := 2) hx hb dL_isWhole_170 (by decide) ?_
            refine wl_pV (As := [.int (nI i), .int 2]) (rest := []) ⟨hx, hb, hml, hown, hts⟩ (m_X4_lof2n l D cy x sa ja ta h q v i mk (by omega) em2) (cwV 2 hts gL_isWhole_X4_lampOf rfl rfl rfl (by decide +kernel) ⟨Nat.le_of_ble_eq_true rfl, Nat.le_of_ble_eq_true rfl⟩) hK hP [0, 1] rfl rfl rfl rfl rfl rfl hl.1 rfl (Nat.le_of_ble_eq_true rfl) dL_isWhole_171 ⟨Nat.le_of_ble_eq_true rfl, Nat.le_of_ble_eq_true rfl⟩ (fun r44 er44 => ?_)
            have er44 : r44 = nI mk := er44
            subst er44
            refine wl_if_lt (tgt := 252) hx hb mk dL_isWhole_174 (by decide) (by omega) ?_
            refine lv_aload_n hx hb dL_isWhole_177 rfl (lv_at hl 7 rfl) ?_
            refine lv_iload hx hb dL_isWhole_178 (lv_at hl 4 rfl) ?_
            refine lv_iconst (v := 2) hx hb dL_isWhole_180 (by decide) ?_
            refine wl_pV (As := [.int (nI i), .int 2]) (rest := []) ⟨hx, hb, hml, hown, hts⟩ (m_X4_lof2n l D cy x sa ja ta h q v i mk (by omega) em2) (cwV 2 hts gL_isWhole_X4_lampOf rfl rfl rfl (by decide +kernel) ⟨Nat.le_of_ble_eq_true rfl, Nat.le_of_ble_eq_true rfl⟩) hK hP [0, 1] rfl rfl rfl rfl rfl rfl hl.1 rfl (Nat.le_of_ble_eq_true rfl) dL_isWhole_181 ⟨Nat.le_of_ble_eq_true rfl, Nat.le_of_ble_eq_true rfl⟩ (fun r46 er46 => ?_)
            have er46 : r46 = nI mk := er46
            subst er46
            refine lv_sipush (v := 4096) hx hb dL_isWhole_184 (by decide) ?_
            refine wl_icmp_ge (tgt := 252) hx hb mk 4096 dL_isWhole_187 (by decide) (by omega) (by omega) (fun c47 => absurd c47 (by omega)) (fun c47 => ?_)
            refine lv_iload hx hb dL_isWhole_190 (lv_at hl 4 rfl) ?_
            have K62 : ∀ (ls : Array Slot), lv_has ls 8 [(3, .int (q_cnt (v 3) (i + 1))), (1, .int (q_sum2 (fun a9 b9 => q_br (v 3 a9) (nI b9)) (i + 1))), (5, .int (nI i)), (2, .int (q_in (fun b9 => q_shn v (q_br (v 3 i) (nI b9)) (q_cw v)) 3 (q_sum2 (fun a9 b9 => q_shn v (q_br (v 3 a9) (nI b9)) (q_cw v)) i))), (0, .ref x)] → W p l e ({ frames := 4, cells := 0, slots := 0, locals := 89 } : Room) s m ([.ref x] : List Value).toArray below meth c s.heap [] 0 0 (MQ below (vp_Si (fun r : Int32 => r = 1)) ([.ref x] : List Value).toArray s 0 0 (fun _ => False)) (F0 m 253 ls [.int 1]) := by
              intro ls    hl
              refine lv_istore (lv' := [(4, .int 1), (3, .int (q_cnt (v 3) (i + 1))), (1, .int (q_sum2 (fun a9 b9 => q_br (v 3 a9) (nI b9)) (i + 1))), (5, .int (nI i)), (2, .int (q_in (fun b9 => q_shn v (q_br (v 3 i) (nI b9)) (q_cw v)) 3 (q_sum2 (fun a9 b9 => q_shn v (q_br (v 3 a9) (nI b9)) (q_cw v)) i))), (0, .ref x)]) hx hb dL_isWhole_253 hl (by decide) rfl (fun ls hl => ?_)
              refine lv_iinc (v := nI (i + 1)) (lv' := [(5, .int (nI (i + 1))), (4, .int 1), (3, .int (q_cnt (v 3) (i + 1))), (1, .int (q_sum2 (fun a9 b9 => q_br (v 3 a9) (nI b9)) (i + 1))), (2, .int (q_in (fun b9 => q_shn v (q_br (v 3 i) (nI b9)) (q_cw v)) 3 (q_sum2 (fun a9 b9 => q_shn v (q_br (v 3 a9) (nI b9)) (q_cw v)) i))), (0, .ref x)]) hx hb dL_isWhole_255 hl (k := 3) rfl (wl_inc i) (by decide) rfl (fun ls hl => ?_)
              refine lv_goto (tgt := 12) hx hb dL_isWhole_258 (by decide) ?_
              subst ev35
              exact ih3 (i + 1) (by omega) (by omega) _  (lv_sub hl [0, 1, 2, 4, 3, 5] rfl)
            refine wl_if_eq (tgt := 216) hx hb i dL_isWhole_192 (by decide) (by omega) (fun c48 => ?_) (fun c48 => ?_)
            · refine lv_aload_n hx hb dL_isWhole_216 rfl (lv_at hl 7 rfl) ?_
              refine lv_iload hx hb dL_isWhole_217 (lv_at hl 4 rfl) ?_
              refine wl_pV (As := [.int (nI i)]) (rest := []) ⟨hx, hb, hml, hown, hts⟩ (m_X4_wordsTo l D cy x sa ja ta h q v i (by omega)) (cwV 1 hts gL_isWhole_X4_wordsTo rfl rfl rfl (by decide +kernel) ⟨Nat.le_of_ble_eq_true rfl, Nat.le_of_ble_eq_true rfl⟩) hK hP [0, 1] rfl rfl rfl rfl rfl rfl hl.1 rfl (Nat.le_of_ble_eq_true rfl) dL_isWhole_219 ⟨Nat.le_of_ble_eq_true rfl, Nat.le_of_ble_eq_true rfl⟩ (fun r49 er49 => ?_)
              have er49 : r49 = q_wu v i := er49
              subst er49
              refine lv_iconst (v := (-1)) hx hb dL_isWhole_222 (by decide) ?_
              refine lv_icmp_eq (tgt := 248) hx hb dL_isWhole_223 (by decide) (fun cw => ?_) (fun cw => ?_)
              · refine lv_iconst (v := 1) hx hb dL_isWhole_248 (by decide) ?_
                refine lv_goto (tgt := 253) hx hb dL_isWhole_249 (by decide) ?_
                exact K62 _   (lv_sub hl [1, 2, 4, 6, 7] rfl)
              · refine lv_aload_n hx hb dL_isWhole_226 rfl (lv_at hl 7 rfl) ?_
                refine lv_iload hx hb dL_isWhole_227 (lv_at hl 4 rfl) ?_
                refine wl_pV (As := [.int (nI i)]) (rest := []) ⟨hx, hb, hml, hown, hts⟩ (m_X4_wordsTo l D cy x sa ja ta h q v i (by omega)) (cwV 1 hts gL_isWhole_X4_wordsTo rfl rfl rfl (by decide +kernel) ⟨Nat.le_of_ble_eq_true rfl, Nat.le_of_ble_eq_true rfl⟩) hK hP [0, 1] rfl rfl rfl rfl rfl rfl hl.1 rfl (Nat.le_of_ble_eq_true rfl) dL_isWhole_229 ⟨Nat.le_of_ble_eq_true rfl, Nat.le_of_ble_eq_true rfl⟩ (fun r50 er50 => ?_)
                have er50 : r50 = q_wu v i := er50
                subst er50
                refine lv_if_le (tgt := 252) hx hb dL_isWhole_232 (by decide) (fun c51 => absurd c51 (p_wu1 hi8 cw).1) (fun c51 => ?_)
                refine lv_aload_n hx hb dL_isWhole_235 rfl (lv_at hl 7 rfl) ?_
                refine lv_iload hx hb dL_isWhole_236 (lv_at hl 4 rfl) ?_
                refine wl_pV (As := [.int (nI i)]) (rest := []) ⟨hx, hb, hml, hown, hts⟩ (m_X4_wordsTo l D cy x sa ja ta h q v i (by omega)) (cwV 1 hts gL_isWhole_X4_wordsTo rfl rfl rfl (by decide +kernel) ⟨Nat.le_of_ble_eq_true rfl, Nat.le_of_ble_eq_true rfl⟩) hK hP [0, 1] rfl rfl rfl rfl rfl rfl hl.1 rfl (Nat.le_of_ble_eq_true rfl) dL_isWhole_238 ⟨Nat.le_of_ble_eq_true rfl, Nat.le_of_ble_eq_true rfl⟩ (fun r52 er52 => ?_)
                have er52 : r52 = q_wu v i := er52
                subst er52
                refine lv_iload hx hb dL_isWhole_241 (lv_at hl 4 rfl) ?_
                refine lv_iconst (v := 1) hx hb dL_isWhole_243 (by decide) ?_
                refine lv_iadd hx hb dL_isWhole_244 ?_
                refine wl_top (y := nI (i + 1)) (nI_add i 1) ?_
                refine lv_icmp_gt (tgt := 252) hx hb dL_isWhole_245 (by decide) (fun c53 => absurd c53 (p_wu1 hi8 cw).2) (fun c53 => ?_)
                refine lv_iconst (v := 1) hx hb dL_isWhole_248 (by decide) ?_
                refine lv_goto (tgt := 253) hx hb dL_isWhole_249 (by decide) ?_
                exact K62 _   (lv_sub hl [1, 2, 4, 6, 7] rfl)
            · refine lv_aload_n hx hb dL_isWhole_195 rfl (lv_at hl 7 rfl) ?_
              refine lv_iload hx hb dL_isWhole_196 (lv_at hl 4 rfl) ?_
              refine lv_bipush (v := 7) hx hb dL_isWhole_198 (by decide) ?_
              refine wl_pV (As := [.int (nI i), .int 7]) (rest := []) ⟨hx, hb, hml, hown, hts⟩ (m_X4_lof7 l D cy x sa ja ta h q v i (by omega)) (cwV 2 hts gL_isWhole_X4_lampOf rfl rfl rfl (by decide +kernel) ⟨Nat.le_of_ble_eq_true rfl, Nat.le_of_ble_eq_true rfl⟩) hK hP [0, 1] rfl rfl rfl rfl rfl rfl hl.1 rfl (Nat.le_of_ble_eq_true rfl) dL_isWhole_200 ⟨Nat.le_of_ble_eq_true rfl, Nat.le_of_ble_eq_true rfl⟩ (fun r54 er54 => ?_)
              have er54 : r54 = v 4 i := er54
              subst er54
              refine lv_aload_n hx hb dL_isWhole_203 rfl (lv_at hl 7 rfl) ?_
              refine lv_iload hx hb dL_isWhole_204 (lv_at hl 4 rfl) ?_
              refine lv_iconst (v := 1) hx hb dL_isWhole_206 (by decide) ?_
              refine lv_isub hx hb dL_isWhole_207 ?_
              refine wl_top (y := nI (i - 1)) (pk_sub (a := i) (b := 1) (by omega)) ?_
              refine lv_bipush (v := 7) hx hb dL_isWhole_208 (by decide) ?_
              refine wl_pV (As := [.int (nI (i - 1)), .int 7]) (rest := [.int (v 4 i)]) ⟨hx, hb, hml, hown, hts⟩ (m_X4_lof7 l D cy x sa ja ta h q v (i - 1) (by omega)) (cwV 2 hts gL_isWhole_X4_lampOf rfl rfl rfl (by decide +kernel) ⟨Nat.le_of_ble_eq_true rfl, Nat.le_of_ble_eq_true rfl⟩) hK hP [0, 1] rfl rfl rfl rfl rfl rfl hl.1 rfl (Nat.le_of_ble_eq_true rfl) dL_isWhole_210 ⟨Nat.le_of_ble_eq_true rfl, Nat.le_of_ble_eq_true rfl⟩ (fun r55 er55 => ?_)
              have er55 : r55 = v 4 (i - 1) := er55
              subst er55
              refine lv_icmp_gt (tgt := 252) hx hb dL_isWhole_213 (by decide) (fun c56 => absurd c56 (hok.2.2.2.2.1 i (by omega) (by omega))) (fun c56 => ?_)
              refine lv_aload_n hx hb dL_isWhole_216 rfl (lv_at hl 7 rfl) ?_
              refine lv_iload hx hb dL_isWhole_217 (lv_at hl 4 rfl) ?_
              refine wl_pV (As := [.int (nI i)]) (rest := []) ⟨hx, hb, hml, hown, hts⟩ (m_X4_wordsTo l D cy x sa ja ta h q v i (by omega)) (cwV 1 hts gL_isWhole_X4_wordsTo rfl rfl rfl (by decide +kernel) ⟨Nat.le_of_ble_eq_true rfl, Nat.le_of_ble_eq_true rfl⟩) hK hP [0, 1] rfl rfl rfl rfl rfl rfl hl.1 rfl (Nat.le_of_ble_eq_true rfl) dL_isWhole_219 ⟨Nat.le_of_ble_eq_true rfl, Nat.le_of_ble_eq_true rfl⟩ (fun r57 er57 => ?_)
              have er57 : r57 = q_wu v i := er57
              subst er57
              refine lv_iconst (v := (-1)) hx hb dL_isWhole_222 (by decide) ?_
              refine lv_icmp_eq (tgt := 248) hx hb dL_isWhole_223 (by decide) (fun cw => ?_) (fun cw => ?_)
              · refine lv_iconst (v := 1) hx hb dL_isWhole_248 (by decide) ?_
                refine lv_goto (tgt := 253) hx hb dL_isWhole_249 (by decide) ?_
                exact K62 _   (lv_sub hl [1, 2, 4, 6, 7] rfl)
              · refine lv_aload_n hx hb dL_isWhole_226 rfl (lv_at hl 7 rfl) ?_
                refine lv_iload hx hb dL_isWhole_227 (lv_at hl 4 rfl) ?_
                refine wl_pV (As := [.int (nI i)]) (rest := []) ⟨hx, hb, hml, hown, hts⟩ (m_X4_wordsTo l D cy x sa ja ta h q v i (by omega)) (cwV 1 hts gL_isWhole_X4_wordsTo rfl rfl rfl (by decide +kernel) ⟨Nat.le_of_ble_eq_true rfl, Nat.le_of_ble_eq_true rfl⟩) hK hP [0, 1] rfl rfl rfl rfl rfl rfl hl.1 rfl (Nat.le_of_ble_eq_true rfl) dL_isWhole_229 ⟨Nat.le_of_ble_eq_true rfl, Nat.le_of_ble_eq_true rfl⟩ (fun r58 er58 => ?_)
                have er58 : r58 = q_wu v i := er58
                subst er58
                refine lv_if_le (tgt := 252) hx hb dL_isWhole_232 (by decide) (fun c59 => absurd c59 (p_wu1 hi8 cw).1) (fun c59 => ?_)
                refine lv_aload_n hx hb dL_isWhole_235 rfl (lv_at hl 7 rfl) ?_
                refine lv_iload hx hb dL_isWhole_236 (lv_at hl 4 rfl) ?_
                refine wl_pV (As := [.int (nI i)]) (rest := []) ⟨hx, hb, hml, hown, hts⟩ (m_X4_wordsTo l D cy x sa ja ta h q v i (by omega)) (cwV 1 hts gL_isWhole_X4_wordsTo rfl rfl rfl (by decide +kernel) ⟨Nat.le_of_ble_eq_true rfl, Nat.le_of_ble_eq_true rfl⟩) hK hP [0, 1] rfl rfl rfl rfl rfl rfl hl.1 rfl (Nat.le_of_ble_eq_true rfl) dL_isWhole_238 ⟨Nat.le_of_ble_eq_true rfl, Nat.le_of_ble_eq_true rfl⟩ (fun r60 er60 => ?_)
                have er60 : r60 = q_wu v i := er60
                subst er60
                refine lv_iload hx hb dL_isWhole_241 (lv_at hl 4 rfl) ?_
                refine lv_iconst (v := 1) hx hb dL_isWhole_243 (by decide) ?_
                refine lv_iadd hx hb dL_isWhole_244 ?_
                refine wl_top (y := nI (i + 1)) (nI_add i 1) ?_
                refine lv_icmp_gt (tgt := 252) hx hb dL_isWhole_245 (by decide) (fun c61 => absurd c61 (p_wu1 hi8 cw).2) (fun c61 => ?_)
                refine lv_iconst (v := 1) hx hb dL_isWhole_248 (by decide) ?_
                refine lv_goto (tgt := 253) hx hb dL_isWhole_249 (by decide) ?_
                exact K62 _   (lv_sub hl [1, 2, 4, 6, 7] rfl)
          · have hk3 : k < 3 := by omega
            have hge : ¬ ((nI mw >>> ((8 - nI (4 * k)) &&& 31)) &&& 15) < q_shn v (q_br (v 3 i) (nI k)) (q_cw v) := by rw [p_brk hk3, ← em]; exact (p_shn hc5 hc (v 3 i) (nI k)).2
            refine lv_iload_n hx hb dL_isWhole_79 rfl (lv_at hl 6 rfl) ?_
            refine lv_aload_n hx hb dL_isWhole_80 rfl (lv_at hl 7 rfl) ?_
            refine lv_iload hx hb dL_isWhole_81 (lv_at hl 4 rfl) ?_
            refine lv_iconst (v := 4) hx hb dL_isWhole_83 (by decide) ?_
            refine lv_iload hx hb dL_isWhole_84 (lv_at hl 0 rfl) ?_
            refine lv_iadd hx hb dL_isWhole_86 ?_
            refine wl_top (y := nI (4 + k)) (nI_add 4 k) ?_
            refine wl_pV (As := [.int (nI i), .int (nI (4 + k))]) (rest := [.int (q_in (fun b9 => q_shn v (q_br (v 3 i) (nI b9)) (q_cw v)) k (q_sum2 (fun a9 b9 => q_shn v (q_br (v 3 a9) (nI b9)) (q_cw v)) i))]) ⟨hx, hb, hml, hown, hts⟩ (m_X4_lof4k l D cy x sa ja ta h q v i k (by omega) (by omega)) (cwV 2 hts gL_isWhole_X4_lampOf rfl rfl rfl (by decide +kernel) ⟨Nat.le_of_ble_eq_true rfl, Nat.le_of_ble_eq_true rfl⟩) hK hP [0, 1] rfl rfl rfl rfl rfl rfl hl.1 rfl (Nat.le_of_ble_eq_true rfl) dL_isWhole_87 ⟨Nat.le_of_ble_eq_true rfl, Nat.le_of_ble_eq_true rfl⟩ (fun r63 er63 => ?_)
            have er63 : r63 = q_shn v (q_br (v 3 i) (nI k)) (q_cw v) := er63
            subst er63
            refine lv_iadd hx hb dL_isWhole_90 ?_
            refine lv_istore_n (lv' := [(2, .int ((q_in (fun b9 => q_shn v (q_br (v 3 i) (nI b9)) (q_cw v)) k (q_sum2 (fun a9 b9 => q_shn v (q_br (v 3 a9) (nI b9)) (q_cw v)) i)) + (q_shn v (q_br (v 3 i) (nI k)) (q_cw v)))), (7, .int (nI k)), (3, .int (q_cnt (v 3) (i + 1))), (1, .int (q_sum2 (fun a9 b9 => q_br (v 3 a9) (nI b9)) (i + 1))), (6, .int (nI mw)), (5, .int (nI i)), (4, .int 1), (0, .ref x)]) hx hb dL_isWhole_91 rfl hl (by decide) rfl (fun ls hl => ?_)
            refine lv_iload hx hb dL_isWhole_92 (lv_at hl 6 rfl) ?_
            refine wl_if_eq (tgt := 140) hx hb 1 dL_isWhole_94 (by decide) (by omega) (fun c64 => absurd c64 (by omega)) (fun c64 => ?_)
            refine lv_aload_n hx hb dL_isWhole_97 rfl (lv_at hl 7 rfl) ?_
            refine lv_iload hx hb dL_isWhole_98 (lv_at hl 5 rfl) ?_
            refine lv_iconst (v := 4) hx hb dL_isWhole_100 (by decide) ?_
            refine lv_iload hx hb dL_isWhole_101 (lv_at hl 1 rfl) ?_
            refine lv_iadd hx hb dL_isWhole_103 ?_
            refine wl_top (y := nI (4 + k)) (nI_add 4 k) ?_
            refine wl_pV (As := [.int (nI i), .int (nI (4 + k))]) (rest := []) ⟨hx, hb, hml, hown, hts⟩ (m_X4_lof4k l D cy x sa ja ta h q v i k (by omega) (by omega)) (cwV 2 hts gL_isWhole_X4_lampOf rfl rfl rfl (by decide +kernel) ⟨Nat.le_of_ble_eq_true rfl, Nat.le_of_ble_eq_true rfl⟩) hK hP [0, 1] rfl rfl rfl rfl rfl rfl hl.1 rfl (Nat.le_of_ble_eq_true rfl) dL_isWhole_104 ⟨Nat.le_of_ble_eq_true rfl, Nat.le_of_ble_eq_true rfl⟩ (fun r65 er65 => ?_)
            have er65 : r65 = q_shn v (q_br (v 3 i) (nI k)) (q_cw v) := er65
            subst er65
            refine lv_if_lt (tgt := 140) hx hb dL_isWhole_107 (by decide) (fun c66 => absurd c66 (p_shn hc5 hc (v 3 i) (nI k)).1) (fun c66 => ?_)
            refine lv_aload_n hx hb dL_isWhole_110 rfl (lv_at hl 7 rfl) ?_
            refine lv_iload hx hb dL_isWhole_111 (lv_at hl 5 rfl) ?_
            refine lv_iconst (v := 4) hx hb dL_isWhole_113 (by decide) ?_
            refine lv_iload hx hb dL_isWhole_114 (lv_at hl 1 rfl) ?_
            refine lv_iadd hx hb dL_isWhole_116 ?_
            refine wl_top (y := nI (4 + k)) (nI_add 4 k) ?_
            refine wl_pV (As := [.int (nI i), .int (nI (4 + k))]) (rest := []) ⟨hx, hb, hml, hown, hts⟩ (m_X4_lof4k l D cy x sa ja ta h q v i k (by omega) (by omega)) (cwV 2 hts gL_isWhole_X4_lampOf rfl rfl rfl (by decide +kernel) ⟨Nat.le_of_ble_eq_true rfl, Nat.le_of_ble_eq_true rfl⟩) hK hP [0, 1] rfl rfl rfl rfl rfl rfl hl.1 rfl (Nat.le_of_ble_eq_true rfl) dL_isWhole_117 ⟨Nat.le_of_ble_eq_true rfl, Nat.le_of_ble_eq_true rfl⟩ (fun r67 er67 => ?_)
            have er67 : r67 = q_shn v (q_br (v 3 i) (nI k)) (q_cw v) := er67
            subst er67
            refine lv_iload hx hb dL_isWhole_120 (lv_at hl 4 rfl) ?_
            refine lv_bipush (v := 8) hx hb dL_isWhole_122 (by decide) ?_
            refine lv_iconst (v := 4) hx hb dL_isWhole_124 (by decide) ?_
            refine lv_iload hx hb dL_isWhole_125 (lv_at hl 1 rfl) ?_
            refine lv_imul hx hb dL_isWhole_127 ?_
            refine wl_top (y := nI (4 * k)) (pk_mul 4 k) ?_
            refine lv_isub hx hb dL_isWhole_128 ?_
            refine lv_ishr hx hb dL_isWhole_129 ?_
            refine lv_bipush (v := 15) hx hb dL_isWhole_130 (by decide) ?_
            refine lv_iand hx hb dL_isWhole_132 ?_
            refine lv_icmp_gt (tgt := 140) hx hb dL_isWhole_133 (by decide) (fun c68 => absurd c68 hge) (fun c68 => ?_)
            refine lv_iconst (v := 1) hx hb dL_isWhole_136 (by decide) ?_
            refine lv_goto (tgt := 141) hx hb dL_isWhole_137 (by decide) ?_
            refine lv_istore (lv' := [(4, .int 1), (2, .int ((q_in (fun b9 => q_shn v (q_br (v 3 i) (nI b9)) (q_cw v)) k (q_sum2 (fun a9 b9 => q_shn v (q_br (v 3 a9) (nI b9)) (q_cw v)) i)) + (q_shn v (q_br (v 3 i) (nI k)) (q_cw v)))), (7, .int (nI k)), (3, .int (q_cnt (v 3) (i + 1))), (1, .int (q_sum2 (fun a9 b9 => q_br (v 3 a9) (nI b9)) (i + 1))), (6, .int (nI mw)), (5, .int (nI i)), (0, .ref x)]) hx hb dL_isWhole_141 hl (by decide) rfl (fun ls hl => ?_)
            refine lv_iinc (v := nI (k + 1)) (lv' := [(7, .int (nI (k + 1))), (4, .int 1), (2, .int ((q_in (fun b9 => q_shn v (q_br (v 3 i) (nI b9)) (q_cw v)) k (q_sum2 (fun a9 b9 => q_shn v (q_br (v 3 a9) (nI b9)) (q_cw v)) i)) + (q_shn v (q_br (v 3 i) (nI k)) (q_cw v)))), (3, .int (q_cnt (v 3) (i + 1))), (1, .int (q_sum2 (fun a9 b9 => q_br (v 3 a9) (nI b9)) (i + 1))), (6, .int (nI mw)), (5, .int (nI i)), (0, .ref x)]) hx hb dL_isWhole_143 hl (k := 2) rfl (wl_inc k) (by decide) rfl (fun ls hl => ?_)
            refine lv_goto (tgt := 73) hx hb dL_isWhole_146 (by decide) ?_
            exact ih39 (k + 1) (by omega) (by omega) _  (lv_sub hl [0, 3, 4, 5, 6, 1, 2, 7] rfl)
      refine wl_if_le (tgt := 67) hx hb mw dL_isWhole_60 (by decide) (by omega) (fun c34 => ?_) (fun c34 => ?_)
      · refine lv_iconst (v := 0) hx hb dL_isWhole_67 (by decide) ?_
        exact K36 _ 0 (by rw [if_pos c34]) (lv_sub hl [0, 1, 2, 3, 5, 6] rfl)
      · refine lv_iconst (v := 1) hx hb dL_isWhole_63 (by decide) ?_
        refine lv_goto (tgt := 68) hx hb dL_isWhole_64 (by decide) ?_
        exact K36 _ 1 (by rw [if_neg c34]) (lv_sub hl [0, 1, 2, 3, 5, 6] rfl)
