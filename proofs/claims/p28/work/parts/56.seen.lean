/-! the law: what is seen -/
set_option maxHeartbeats 4000000 in
set_option maxRecDepth 100000 in
theorem m_L_seen (l : Launch) (D : va_G) (cy : Nat → ClassId) (x : Nat) (sa ja ta : Nat → Nat) (h q : Nat) (v : Nat → Nat → Int32) (z g n : Nat) (hn : v 7 0 = nI n) (hn2 : n ≤ 120) : Met l yL_seen wsL_seen ({ frames := 4, cells := 0, slots := 0, locals := 89 } : Room) (wl_pc D cy [([(x, .inr (4, [.ref (sa 0), .ref (ja 0), .ref (ta 0), .ref h, .ref q]))] : va_W), stW cy sa v, ([(h, .inr (0, [.ref g, .int (nI z)]))] : va_W)] [.ref x]) (vp_Sl (fun r : Int64 => r = p_see v n)) 0 0 (fun _ => False) := by
  refine wl_ofP (cc := cL_seen) (maxL := 4) (ret := (some .long)) (by decide) rfl (Nat.le_of_ble_eq_true rfl) ?_
  intro p e s m below meth c ls hx hb hr hts hown hlocks hml hP hK hl
  have hl : lv_has ls 4 [(0, .ref x)] := hl
  have lkc74 := hts (.constantLong RL 74 (107)) (by decide +kernel)
  have lkc76 := hts (.constantLong RL 76 (31)) (by decide +kernel)
  refine lv_ldc2 (v := 107) hx hb hown lkc74 dL_seen_0 ?_
  refine lv_lstore_n (lv' := [(1, .long 107), (0, .ref x)]) hx hb dL_seen_3 rfl hl (by decide) rfl (fun ls hl => ?_)
  refine lv_iconst (v := 0) hx hb dL_seen_4 (by decide) ?_
  refine lv_istore_n (lv' := [(3, .int 0), (1, .long 107), (0, .ref x)]) hx hb dL_seen_5 rfl hl (by decide) rfl (fun ls hl => ?_)
  suffices K1 : ∀ (n2 : Nat) (i : Nat), 10 - i < n2 → (i ≤ 10) → ∀ (ls : Array Slot), lv_has ls 4 [(3, .int (nI i)), (1, .long (q_hs (q_co v z) 107 i)), (0, .ref x)] → W p l e ({ frames := 4, cells := 0, slots := 0, locals := 89 } : Room) s m ([.ref x] : List Value).toArray below meth c s.heap [] 0 0 (MQ below (vp_Sl (fun r : Int64 => r = p_see v n)) ([.ref x] : List Value).toArray s 0 0 (fun _ => False)) (F0 m 6 ls []) from K1 11 0 (by omega) (by omega) _  (lv_sub hl [0, 1, 2] rfl)
  intro n2
  induction n2 with
  | zero => intro i hm; exact absurd hm (Nat.not_lt_zero _)
  | succ n2 ih3 =>
    intro i hm hi ls  hl
    refine lv_iload_n hx hb dL_seen_6 rfl (lv_at hl 0 rfl) ?_
    refine lv_bipush (v := 10) hx hb dL_seen_7 (by decide) ?_
    refine wl_icmp_ge (tgt := 31) hx hb i 10 dL_seen_9 (by decide) (by omega) (by omega) (fun c4 => ?_) (fun c4 => ?_)
    · obtain rfl : i = 10 := by omega
      refine lv_iconst (v := 0) hx hb dL_seen_31 (by decide) ?_
      refine lv_istore_n (lv' := [(3, .int 0), (1, .long (q_hs (q_co v z) 107 10)), (0, .ref x)]) hx hb dL_seen_32 rfl hl (by decide) rfl (fun ls hl => ?_)
      suffices K5 : ∀ (n6 : Nat) (i : Nat), 64 - i < n6 → (i ≤ 64) → ∀ (ls : Array Slot), lv_has ls 4 [(3, .int (nI i)), (1, .long (q_hs (fun k => q_lo v (k / 8) (k % 8)) (q_hs (q_co v z) 107 10) i)), (0, .ref x)] → W p l e ({ frames := 4, cells := 0, slots := 0, locals := 89 } : Room) s m ([.ref x] : List Value).toArray below meth c s.heap [] 0 0 (MQ below (vp_Sl (fun r : Int64 => r = p_see v n)) ([.ref x] : List Value).toArray s 0 0 (fun _ => False)) (F0 m 33 ls []) from K5 65 0 (by omega) (by omega) _  (lv_sub hl [0, 1, 2] rfl)
      intro n6
      induction n6 with
      | zero => intro i hm; exact absurd hm (Nat.not_lt_zero _)
      | succ n6 ih7 =>
        intro i hm hi ls  hl
        refine lv_iload_n hx hb dL_seen_33 rfl (lv_at hl 0 rfl) ?_
        refine lv_bipush (v := 64) hx hb dL_seen_34 (by decide) ?_
        refine wl_icmp_ge (tgt := 65) hx hb i 64 dL_seen_36 (by decide) (by omega) (by omega) (fun c8 => ?_) (fun c8 => ?_)
        · obtain rfl : i = 64 := by omega
          refine lv_iconst (v := 0) hx hb dL_seen_65 (by decide) ?_
          refine lv_istore_n (lv' := [(3, .int 0), (1, .long (q_hs (fun k => q_lo v (k / 8) (k % 8)) (q_hs (q_co v z) 107 10) 64)), (0, .ref x)]) hx hb dL_seen_66 rfl hl (by decide) rfl (fun ls hl => ?_)
          suffices K9 : ∀ (n10 : Nat) (i : Nat), n - i < n10 → (i ≤ n) → ∀ (ls : Array Slot), lv_has ls 4 [(3, .int (nI i)), (1, .long (q_hs (fun k => if k < n then v 6 k else -1) (q_hs (fun k => q_lo v (k / 8) (k % 8)) (q_hs (q_co v z) 107 10) 64) i)), (0, .ref x)] → W p l e ({ frames := 4, cells := 0, slots := 0, locals := 89 } : Room) s m ([.ref x] : List Value).toArray below meth c s.heap [] 0 0 (MQ below (vp_Sl (fun r : Int64 => r = p_see v n)) ([.ref x] : List Value).toArray s 0 0 (fun _ => False)) (F0 m 67 ls []) from K9 (n + 1) 0 (by omega) (by omega) _  (lv_sub hl [0, 1, 2] rfl)
          intro n10
          induction n10 with
          | zero => intro i hm; exact absurd hm (Nat.not_lt_zero _)
          | succ n10 ih11 =>
            intro i hm hi ls  hl
            refine lv_iload_n hx hb dL_seen_67 rfl (lv_at hl 0 rfl) ?_
            refine lv_aload_n hx hb dL_seen_68 rfl (lv_at hl 2 rfl) ?_
            refine lv_iconst (v := 0) hx hb dL_seen_69 (by decide) ?_
            refine wl_pV (As := [.int 0]) (rest := [.int (nI i)]) ⟨hx, hb, hml, hown, hts⟩ (m_X4_cnt0n l D cy x sa ja ta h q v z g n hn) (cwV 1 hts gL_seen_X4_count rfl rfl rfl (by decide +kernel) ⟨Nat.le_of_ble_eq_true rfl, Nat.le_of_ble_eq_true rfl⟩) hK hP [0, 1, 2] rfl rfl rfl rfl rfl rfl hl.1 rfl (Nat.le_of_ble_eq_true rfl) dL_seen_70 ⟨Nat.le_of_ble_eq_true rfl, Nat.le_of_ble_eq_true rfl⟩ (fun r12 er12 => ?_)
            have er12 : r12 = nI n := er12
            subst er12
            refine wl_icmp_ge (tgt := 95) hx hb i n dL_seen_73 (by decide) (by omega) (by omega) (fun c13 => ?_) (fun c13 => ?_)
            · have hil : n = i := by omega
              subst hil
              refine lv_ldc2 (v := 31) hx hb hown lkc76 dL_seen_95 ?_
              refine lv_ldc2 (v := 31) hx hb hown lkc76 dL_seen_98 ?_
              refine lv_ldc2 (v := 31) hx hb hown lkc76 dL_seen_101 ?_
              refine lv_lload_n hx hb dL_seen_104 rfl (lv_at hl 1 rfl) ?_
              refine lv_lmul hx hb dL_seen_105 ?_
              refine lv_aload_n hx hb dL_seen_106 rfl (lv_at hl 2 rfl) ?_
              refine lv_iconst (v := 0) hx hb dL_seen_107 (by decide) ?_
              refine wl_pV (As := [.int 0]) (rest := [.long (31 * (q_hs (fun k => if k < n then v 6 k else -1) (q_hs (fun k => q_lo v (k / 8) (k % 8)) (q_hs (q_co v z) 107 10) 64) n)), .long 31, .long 31]) ⟨hx, hb, hml, hown, hts⟩ (m_X4_setting l D cy x sa ja ta h q v 0 (by omega)) (cwV 1 hts gL_seen_X4_setting rfl rfl rfl (by decide +kernel) ⟨Nat.le_of_ble_eq_true rfl, Nat.le_of_ble_eq_true rfl⟩) hK hP [0, 1] rfl rfl rfl rfl rfl rfl hl.1 rfl (Nat.le_of_ble_eq_true rfl) dL_seen_108 ⟨Nat.le_of_ble_eq_true rfl, Nat.le_of_ble_eq_true rfl⟩ (fun r14 er14 => ?_)
              have er14 : r14 = v 5 0 := er14
              subst er14
              refine lv_i2l (v := Int32.toInt64 (v 5 0)) hx hb dL_seen_111 rfl ?_
              refine lv_ladd hx hb dL_seen_112 ?_
              refine lv_lmul hx hb dL_seen_113 ?_
              refine lv_aload_n hx hb dL_seen_114 rfl (lv_at hl 2 rfl) ?_
              refine lv_iconst (v := 1) hx hb dL_seen_115 (by decide) ?_
              refine wl_pV (As := [.int 1]) (rest := [.long (31 * ((31 * (q_hs (fun k => if k < n then v 6 k else -1) (q_hs (fun k => q_lo v (k / 8) (k % 8)) (q_hs (q_co v z) 107 10) 64) n)) + (Int32.toInt64 (v 5 0)))), .long 31]) ⟨hx, hb, hml, hown, hts⟩ (m_X4_setting l D cy x sa ja ta h q v 1 (by omega)) (cwV 1 hts gL_seen_X4_setting rfl rfl rfl (by decide +kernel) ⟨Nat.le_of_ble_eq_true rfl, Nat.le_of_ble_eq_true rfl⟩) hK hP [0, 1] rfl rfl rfl rfl rfl rfl hl.1 rfl (Nat.le_of_ble_eq_true rfl) dL_seen_116 ⟨Nat.le_of_ble_eq_true rfl, Nat.le_of_ble_eq_true rfl⟩ (fun r15 er15 => ?_)
              have er15 : r15 = v 5 1 := er15
              subst er15
              refine lv_i2l (v := Int32.toInt64 (v 5 1)) hx hb dL_seen_119 rfl ?_
              refine lv_ladd hx hb dL_seen_120 ?_
              refine lv_lmul hx hb dL_seen_121 ?_
              refine lv_aload_n hx hb dL_seen_122 rfl (lv_at hl 2 rfl) ?_
              refine lv_iconst (v := 2) hx hb dL_seen_123 (by decide) ?_
              refine wl_pV (As := [.int 2]) (rest := [.long (31 * ((31 * ((31 * (q_hs (fun k => if k < n then v 6 k else -1) (q_hs (fun k => q_lo v (k / 8) (k % 8)) (q_hs (q_co v z) 107 10) 64) n)) + (Int32.toInt64 (v 5 0)))) + (Int32.toInt64 (v 5 1))))]) ⟨hx, hb, hml, hown, hts⟩ (m_X4_setting l D cy x sa ja ta h q v 2 (by omega)) (cwV 1 hts gL_seen_X4_setting rfl rfl rfl (by decide +kernel) ⟨Nat.le_of_ble_eq_true rfl, Nat.le_of_ble_eq_true rfl⟩) hK hP [0, 1] rfl rfl rfl rfl rfl rfl hl.1 rfl (Nat.le_of_ble_eq_true rfl) dL_seen_124 ⟨Nat.le_of_ble_eq_true rfl, Nat.le_of_ble_eq_true rfl⟩ (fun r16 er16 => ?_)
              have er16 : r16 = v 5 2 := er16
              subst er16
              refine lv_i2l (v := Int32.toInt64 (v 5 2)) hx hb dL_seen_127 rfl ?_
              refine lv_ladd hx hb dL_seen_128 ?_
              exact wl_rl (r := ((31 * ((31 * ((31 * (q_hs (fun k => if k < n then v 6 k else -1) (q_hs (fun k => q_lo v (k / 8) (k % 8)) (q_hs (q_co v z) 107 10) 64) n)) + (Int32.toInt64 (v 5 0)))) + (Int32.toInt64 (v 5 1)))) + (Int32.toInt64 (v 5 2)))) hx hb hr hlocks (by unfold p_see; rw [← p_see_z v z]) dL_seen_129
            · refine lv_ldc2 (v := 31) hx hb hown lkc76 dL_seen_76 ?_
              refine lv_lload_n hx hb dL_seen_79 rfl (lv_at hl 1 rfl) ?_
              refine lv_lmul hx hb dL_seen_80 ?_
              refine lv_aload_n hx hb dL_seen_81 rfl (lv_at hl 2 rfl) ?_
              refine lv_iload_n hx hb dL_seen_82 rfl (lv_at hl 0 rfl) ?_
              refine wl_pV (As := [.int (nI i)]) (rest := [.long (31 * (q_hs (fun k => if k < n then v 6 k else -1) (q_hs (fun k => q_lo v (k / 8) (k % 8)) (q_hs (q_co v z) 107 10) 64) i))]) ⟨hx, hb, hml, hown, hts⟩ (m_X4_pulseAt l D cy x sa ja ta h q v i n (by omega) hn (by omega)) (cwV 1 hts gL_seen_X4_pulseAt rfl rfl rfl (by decide +kernel) ⟨Nat.le_of_ble_eq_true rfl, Nat.le_of_ble_eq_true rfl⟩) hK hP [0, 1] rfl rfl rfl rfl rfl rfl hl.1 rfl (Nat.le_of_ble_eq_true rfl) dL_seen_83 ⟨Nat.le_of_ble_eq_true rfl, Nat.le_of_ble_eq_true rfl⟩ (fun r17 er17 => ?_)
              have er17 : r17 = if i < n then v 6 i else -1 := er17
              subst er17
              refine lv_i2l (v := Int32.toInt64 (if i < n then v 6 i else -1)) hx hb dL_seen_86 rfl ?_
              refine lv_ladd hx hb dL_seen_87 ?_
              refine lv_lstore_n (lv' := [(1, .long ((31 * (q_hs (fun k => if k < n then v 6 k else -1) (q_hs (fun k => q_lo v (k / 8) (k % 8)) (q_hs (q_co v z) 107 10) 64) i)) + (Int32.toInt64 (if i < n then v 6 i else -1)))), (3, .int (nI i)), (0, .ref x)]) hx hb dL_seen_88 rfl hl (by decide) rfl (fun ls hl => ?_)
              refine lv_iinc (v := nI (i + 1)) (lv' := [(3, .int (nI (i + 1))), (1, .long ((31 * (q_hs (fun k => if k < n then v 6 k else -1) (q_hs (fun k => q_lo v (k / 8) (k % 8)) (q_hs (q_co v z) 107 10) 64) i)) + (Int32.toInt64 (if i < n then v 6 i else -1)))), (0, .ref x)]) hx hb dL_seen_89 hl (k := 1) rfl (wl_inc i) (by decide) rfl (fun ls hl => ?_)
              refine lv_goto (tgt := 67) hx hb dL_seen_92 (by decide) ?_
              exact ih11 (i + 1) (by omega) (by omega) _  (lv_sub hl [0, 1, 2] rfl)
        · refine lv_ldc2 (v := 31) hx hb hown lkc76 dL_seen_39 ?_
          refine lv_lload_n hx hb dL_seen_42 rfl (lv_at hl 1 rfl) ?_
          refine lv_lmul hx hb dL_seen_43 ?_
          refine lv_aload_n hx hb dL_seen_44 rfl (lv_at hl 2 rfl) ?_
          refine lv_iload_n hx hb dL_seen_45 rfl (lv_at hl 0 rfl) ?_
          refine lv_bipush (v := 8) hx hb dL_seen_46 (by decide) ?_
          refine lv_idiv hx hb dL_seen_48 (by decide) ?_
          refine wl_top (y := nI (i / 8)) (pk_div (a := i) (d := 8) (by omega) (by omega) (by omega)) ?_
          refine lv_iload_n hx hb dL_seen_49 rfl (lv_at hl 0 rfl) ?_
          refine lv_bipush (v := 8) hx hb dL_seen_50 (by decide) ?_
          refine lv_irem hx hb dL_seen_52 (by decide) ?_
          refine wl_top (y := nI (i % 8)) (pk_rem (a := i) (d := 8) (by omega) (by omega) (by omega)) ?_
          refine wl_pV (As := [.int (nI (i / 8)), .int (nI (i % 8))]) (rest := [.long (31 * (q_hs (fun k => q_lo v (k / 8) (k % 8)) (q_hs (q_co v z) 107 10) i))]) ⟨hx, hb, hml, hown, hts⟩ (m_X4_lampOf l D cy x sa ja ta h q v (i / 8) (i % 8) (by omega) (by omega)) (cwV 2 hts gL_seen_X4_lampOf rfl rfl rfl (by decide +kernel) ⟨Nat.le_of_ble_eq_true rfl, Nat.le_of_ble_eq_true rfl⟩) hK hP [0, 1] rfl rfl rfl rfl rfl rfl hl.1 rfl (Nat.le_of_ble_eq_true rfl) dL_seen_53 ⟨Nat.le_of_ble_eq_true rfl, Nat.le_of_ble_eq_true rfl⟩ (fun r18 er18 => ?_)
          have er18 : r18 = q_lo v (i / 8) (i % 8) := er18
          subst er18
          refine lv_i2l (v := Int32.toInt64 (q_lo v (i / 8) (i % 8))) hx hb dL_seen_56 rfl ?_
          refine lv_ladd hx hb dL_seen_57 ?_
          refine lv_lstore_n (lv' := [(1, .long ((31 * (q_hs (fun k => q_lo v (k / 8) (k % 8)) (q_hs (q_co v z) 107 10) i)) + (Int32.toInt64 (q_lo v (i / 8) (i % 8))))), (3, .int (nI i)), (0, .ref x)]) hx hb dL_seen_58 rfl hl (by decide) rfl (fun ls hl => ?_)
          refine lv_iinc (v := nI (i + 1)) (lv' := [(3, .int (nI (i + 1))), (1, .long ((31 * (q_hs (fun k => q_lo v (k / 8) (k % 8)) (q_hs (q_co v z) 107 10) i)) + (Int32.toInt64 (q_lo v (i / 8) (i % 8))))), (0, .ref x)]) hx hb dL_seen_59 hl (k := 1) rfl (wl_inc i) (by decide) rfl (fun ls hl => ?_)
          refine lv_goto (tgt := 33) hx hb dL_seen_62 (by decide) ?_
          exact ih7 (i + 1) (by omega) (by omega) _  (lv_sub hl [0, 1, 2] rfl)
    · refine lv_ldc2 (v := 31) hx hb hown lkc76 dL_seen_12 ?_
      refine lv_lload_n hx hb dL_seen_15 rfl (lv_at hl 1 rfl) ?_
      refine lv_lmul hx hb dL_seen_16 ?_
      refine lv_aload_n hx hb dL_seen_17 rfl (lv_at hl 2 rfl) ?_
      refine lv_iload_n hx hb dL_seen_18 rfl (lv_at hl 0 rfl) ?_
      refine wl_pV (As := [.int (nI i)]) (rest := [.long (31 * (q_hs (q_co v z) 107 i))]) ⟨hx, hb, hml, hown, hts⟩ (m_X4_count l D cy x sa ja ta h q v z i g (by omega)) (cwV 1 hts gL_seen_X4_count rfl rfl rfl (by decide +kernel) ⟨Nat.le_of_ble_eq_true rfl, Nat.le_of_ble_eq_true rfl⟩) hK hP [0, 1, 2] rfl rfl rfl rfl rfl rfl hl.1 rfl (Nat.le_of_ble_eq_true rfl) dL_seen_19 ⟨Nat.le_of_ble_eq_true rfl, Nat.le_of_ble_eq_true rfl⟩ (fun r19 er19 => ?_)
      have er19 : r19 = q_co v z i := er19
      subst er19
      refine lv_i2l (v := Int32.toInt64 (q_co v z i)) hx hb dL_seen_22 rfl ?_
      refine lv_ladd hx hb dL_seen_23 ?_
      refine lv_lstore_n (lv' := [(1, .long ((31 * (q_hs (q_co v z) 107 i)) + (Int32.toInt64 (q_co v z i)))), (3, .int (nI i)), (0, .ref x)]) hx hb dL_seen_24 rfl hl (by decide) rfl (fun ls hl => ?_)
      refine lv_iinc (v := nI (i + 1)) (lv' := [(3, .int (nI (i + 1))), (1, .long ((31 * (q_hs (q_co v z) 107 i)) + (Int32.toInt64 (q_co v z i)))), (0, .ref x)]) hx hb dL_seen_25 hl (k := 1) rfl (wl_inc i) (by decide) rfl (fun ls hl => ?_)
      refine lv_goto (tgt := 6) hx hb dL_seen_28 (by decide) ?_
      exact ih3 (i + 1) (by omega) (by omega) _  (lv_sub hl [0, 1, 2] rfl)
