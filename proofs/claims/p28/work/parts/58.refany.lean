/-! the law: what is refused -/
theorem p_big {k : Nat} {N : Int32} (n : Nat) (e : N = nI n) (h1 : n ≤ k) (h2 : k < 2 ^ 31) : ¬ (¬ nI k < 0 ∧ ¬ N ≤ nI k) := fun q1 => q1.2 (by rw [e]; exact (nI_leI (by omega) h2).mpr h1)
theorem p_bigW {k : Nat} {N : Int32} (n : Nat) (e : N = nI n) (h1 : n < k) (h2 : k < 2 ^ 31) : ¬ (¬ nI k < 0 ∧ ¬ N < nI k) := fun q1 => q1.2 (by rw [e]; exact (nI_ltI (by omega) h2).mpr h1)
theorem p_wt0 : q_wt q_z0 0 = 0 := by decide
set_option maxHeartbeats 16000000 in
set_option maxRecDepth 100000 in
theorem m_L_refusesAnyE (l : Launch) (hl0 : l.stackTraces = false) (D : va_G) (cy : Nat → ClassId) (x : Nat) (sa ja ta : Nat → Nat) (h q : Nat) (y : Nat) (sz : Nat) (hy : y % 2 = 0) (hy2 : y < 2 ^ 31) : Met l yL_refusesAny wsL_refusesAny ({ frames := 8, cells := 24, slots := 144, locals := 137 } : Room) (wl_ic D cy (wl_T9 (va_A ([([(x, .inr (4, [.ref (sa 0), .ref (ja 0), .ref (ta 0), .ref h, .ref q]))] : va_W), txW cy ta q_z0] : List va_W).flatten sz)) [([(x, .inr (4, [.ref (sa 0), .ref (ja 0), .ref (ta 0), .ref h, .ref q]))] : va_W), txW cy ta q_z0] sz [.ref x, .int (nI y)]) (va_Qi (fun (r : Int32) (bs : List va_W) => r = (if True then 1 else 0) ∧ bs = [([(x, .inr (4, [.ref (sa 0), .ref (ja 0), .ref (ta 0), .ref h, .ref q]))] : va_W), txW cy ta q_z0]) (wl_ib D [([(x, .inr (4, [.ref (sa 0), .ref (ja 0), .ref (ta 0), .ref h, .ref q]))] : va_W), txW cy ta q_z0] sz) (va_A ([([(x, .inr (4, [.ref (sa 0), .ref (ja 0), .ref (ta 0), .ref h, .ref q]))] : va_W), txW cy ta q_z0] : List va_W).flatten sz)) 24 144 (va_A ([([(x, .inr (4, [.ref (sa 0), .ref (ja 0), .ref (ta 0), .ref h, .ref q]))] : va_W), txW cy ta q_z0] : List va_W).flatten sz) := by
  refine wl_ofI (cc := cL_refusesAny) (maxL := 5) (ret := (some .boolean)) (by decide) rfl (Nat.le_of_ble_eq_true rfl) ?_
  intro p e s m below meth c ls A hx hb hr hts hown hlocks hml hnm hsz hAe hP hK hD hX hA hS hl
  rw [hAe] at hX
  have hl : lv_has ls 5 [(0, .ref x), (1, .int (nI y))] := hl
  refine lv_iload_n hx hb dL_refusesAny_0 rfl (lv_at hl 1 rfl) ?_
  refine lv_iconst (v := 2) hx hb dL_refusesAny_1 (by decide) ?_
  refine lv_irem hx hb dL_refusesAny_2 (by decide) ?_
  refine wl_top (y := nI (y % 2)) (pk_rem (a := y) (d := 2) (by omega) (by omega) (by omega)) ?_
  refine wl_if_ne (tgt := 15) hx hb (y % 2) dL_refusesAny_3 (by decide) (by omega) (fun c1 => absurd c1 (by omega)) (fun c1 => ?_)
  refine lv_iconst (v := (-1)) hx hb dL_refusesAny_6 (by decide) ?_
  refine lv_iload_n hx hb dL_refusesAny_7 rfl (lv_at hl 1 rfl) ?_
  refine lv_bipush (v := 99) hx hb dL_refusesAny_8 (by decide) ?_
  refine lv_irem hx hb dL_refusesAny_10 (by decide) ?_
  refine wl_top (y := nI (y % 99)) (pk_rem (a := y) (d := 99) (by omega) (by omega) (by omega)) ?_
  refine lv_isub hx hb dL_refusesAny_11 ?_
  refine lv_goto (tgt := 22) hx hb dL_refusesAny_12 (by decide) ?_
  refine lv_istore_n (lv' := [(2, .int ((-1) - (nI (y % 99)))), (0, .ref x), (1, .int (nI y))]) hx hb dL_refusesAny_22 rfl hl (by decide) rfl (fun ls hl => ?_)
  refine lv_iload_n hx hb dL_refusesAny_23 rfl (lv_at hl 2 rfl) ?_
  refine lv_iconst (v := 2) hx hb dL_refusesAny_24 (by decide) ?_
  refine lv_irem hx hb dL_refusesAny_25 (by decide) ?_
  refine wl_top (y := nI (y % 2)) (pk_rem (a := y) (d := 2) (by omega) (by omega) (by omega)) ?_
  refine wl_if_ne (tgt := 38) hx hb (y % 2) dL_refusesAny_26 (by decide) (by omega) (fun c2 => absurd c2 (by omega)) (fun c2 => ?_)
  refine lv_iconst (v := (-1)) hx hb dL_refusesAny_29 (by decide) ?_
  refine lv_iload_n hx hb dL_refusesAny_30 rfl (lv_at hl 2 rfl) ?_
  refine lv_bipush (v := 99) hx hb dL_refusesAny_31 (by decide) ?_
  refine lv_irem hx hb dL_refusesAny_33 (by decide) ?_
  refine wl_top (y := nI (y % 99)) (pk_rem (a := y) (d := 99) (by omega) (by omega) (by omega)) ?_
  refine lv_isub hx hb dL_refusesAny_34 ?_
  refine lv_goto (tgt := 46) hx hb dL_refusesAny_35 (by decide) ?_
  refine lv_istore_n (lv' := [(3, .int ((-1) - (nI (y % 99)))), (2, .int ((-1) - (nI (y % 99)))), (0, .ref x), (1, .int (nI y))]) hx hb dL_refusesAny_46 rfl hl (by decide) rfl (fun ls hl => ?_)
  refine lv_aload_n hx hb dL_refusesAny_47 rfl (lv_at hl 2 rfl) ?_
  refine lv_iconst (v := 0) hx hb dL_refusesAny_48 (by decide) ?_
  refine lv_iload_n hx hb dL_refusesAny_49 rfl (lv_at hl 1 rfl) ?_
  refine lv_bipush (v := 9) hx hb dL_refusesAny_50 (by decide) ?_
  refine wl_iSW (As := [.ref x, .int 0, .int ((-1) - (nI (y % 99))), .int 9]) (rest := []) (bsC := [([(x, .inr (4, [.ref (sa 0), .ref (ja 0), .ref (ta 0), .ref h, .ref q]))] : va_W)]) (bsR := [txW cy ta q_z0]) ⟨hx, hb, hml, hown, hts⟩ (b_c_mode1 l hl0 D cy x sa ja ta h q ((-1) - (nI (y % 99))) 9 s.heap.size (fun q1 => q1.1 (p_neg _ (Nat.mod_lt _ (by decide))))) (vx_cwSW 4 hts gL_refusesAny_L_call rfl rfl rfl (by decide +kernel) ⟨Nat.le_of_ble_eq_true rfl, Nat.le_of_ble_eq_true rfl⟩) wl_T9_b (fun U hU hW => wl_T9_w hU hW hS (wl_freeB (bsC := [([(x, .inr (4, [.ref (sa 0), .ref (ja 0), .ref (ta 0), .ref h, .ref q]))] : va_W)]) (bsR := [txW cy ta q_z0]) hD hS hA) hX) hK hP hD hS hA rfl hl.1 rfl (Nat.le_of_ble_eq_true rfl) dL_refusesAny_52 ⟨Nat.le_of_ble_eq_true rfl, Nat.le_of_ble_eq_true rfl⟩ (fun r3 bs4 H locs e5 _ _ hP hD hS => ?_)
  obtain ⟨er3, e5⟩ : r3 = (-10) ∧ bs4 = [([(x, .inr (4, [.ref (sa 0), .ref (ja 0), .ref (ta 0), .ref h, .ref q]))] : va_W)] := e5
  subst e5
  subst er3
  refine W.widen (k := 1) (n := 6) (Nat.le_refl _) (Nat.le_refl _) ?_
  have hP : va_P D vwCl ([([(x, .inr (4, [.ref (sa 0), .ref (ja 0), .ref (ta 0), .ref h, .ref q]))] : va_W), txW cy ta q_z0] : List va_W).flatten H := hP
  have hD : va_D A ([([(x, .inr (4, [.ref (sa 0), .ref (ja 0), .ref (ta 0), .ref h, .ref q]))] : va_W), txW cy ta q_z0] : List va_W).flatten := hD
  refine lv_bipush (v := (-10)) hx hb dL_refusesAny_55 (by decide) ?_
  refine lv_icmp_ne (tgt := 333) hx hb dL_refusesAny_57 (by decide) (fun c6 => absurd rfl c6) (fun c6 => ?_)
  refine lv_aload_n hx hb dL_refusesAny_60 rfl (lv_at hl 2 rfl) ?_
  refine lv_iconst (v := 0) hx hb dL_refusesAny_61 (by decide) ?_
  refine lv_iconst (v := 0) hx hb dL_refusesAny_62 (by decide) ?_
  refine lv_iload_n hx hb dL_refusesAny_63 rfl (lv_at hl 3 rfl) ?_
  refine lv_iconst (v := 2) hx hb dL_refusesAny_64 (by decide) ?_
  refine lv_irem hx hb dL_refusesAny_65 (by decide) ?_
  refine wl_top (y := nI (y % 2)) (pk_rem (a := y) (d := 2) (by omega) (by omega) (by omega)) ?_
  refine wl_if_ne (tgt := 73) hx hb (y % 2) dL_refusesAny_66 (by decide) (by omega) (fun c7 => absurd c7 (by omega)) (fun c7 => ?_)
  refine lv_iconst (v := (-1)) hx hb dL_refusesAny_69 (by decide) ?_
  refine lv_goto (tgt := 74) hx hb dL_refusesAny_70 (by decide) ?_
  refine wl_iSW (As := [.ref x, .int 0, .int 0, .int (-1)]) (rest := []) (bsC := [([(x, .inr (4, [.ref (sa 0), .ref (ja 0), .ref (ta 0), .ref h, .ref q]))] : va_W)]) (bsR := [txW cy ta q_z0]) ⟨hx, hb, hml, hown, hts⟩ (b_c_mode2 l hl0 D cy x sa ja ta h q 0 (-1) H.size (by decide) (by decide)) (vx_cwSW 4 hts gL_refusesAny_L_call rfl rfl rfl (by decide +kernel) ⟨Nat.le_of_ble_eq_true rfl, Nat.le_of_ble_eq_true rfl⟩) wl_T9_b (fun U hU hW => wl_T9_w hU hW hS (wl_freeB (bsC := [([(x, .inr (4, [.ref (sa 0), .ref (ja 0), .ref (ta 0), .ref h, .ref q]))] : va_W)]) (bsR := [txW cy ta q_z0]) hD hS hA) hX) hK hP hD hS hA rfl hl.1 rfl (Nat.le_of_ble_eq_true rfl) dL_refusesAny_74 ⟨Nat.le_of_ble_eq_true rfl, Nat.le_of_ble_eq_true rfl⟩ (fun r8 bs9 H locs e10 _ _ hP hD hS => ?_)
  obtain ⟨er8, e10⟩ : r8 = (-11) ∧ bs9 = [([(x, .inr (4, [.ref (sa 0), .ref (ja 0), .ref (ta 0), .ref h, .ref q]))] : va_W)] := e10
  subst e10
  subst er8
  refine W.widen (k := 2) (n := 12) (Nat.le_refl _) (Nat.le_refl _) ?_
  have hP : va_P D vwCl ([([(x, .inr (4, [.ref (sa 0), .ref (ja 0), .ref (ta 0), .ref h, .ref q]))] : va_W), txW cy ta q_z0] : List va_W).flatten H := hP
  have hD : va_D A ([([(x, .inr (4, [.ref (sa 0), .ref (ja 0), .ref (ta 0), .ref h, .ref q]))] : va_W), txW cy ta q_z0] : List va_W).flatten := hD
  refine lv_bipush (v := (-11)) hx hb dL_refusesAny_77 (by decide) ?_
  refine lv_icmp_ne (tgt := 333) hx hb dL_refusesAny_79 (by decide) (fun c11 => absurd rfl c11) (fun c11 => ?_)
  refine lv_aload_n hx hb dL_refusesAny_82 rfl (lv_at hl 2 rfl) ?_
  refine lv_iconst (v := 1) hx hb dL_refusesAny_83 (by decide) ?_
  refine lv_iload_n hx hb dL_refusesAny_84 rfl (lv_at hl 1 rfl) ?_
  refine lv_bipush (v := 9) hx hb dL_refusesAny_85 (by decide) ?_
  refine wl_iSW (As := [.ref x, .int 1, .int ((-1) - (nI (y % 99))), .int 9]) (rest := []) (bsC := [([(x, .inr (4, [.ref (sa 0), .ref (ja 0), .ref (ta 0), .ref h, .ref q]))] : va_W)]) (bsR := [txW cy ta q_z0]) ⟨hx, hb, hml, hown, hts⟩ (b_c_loss1 l hl0 D cy x sa ja ta h q ((-1) - (nI (y % 99))) 9 H.size (fun q1 => q1.1 (p_neg _ (Nat.mod_lt _ (by decide))))) (vx_cwSW 4 hts gL_refusesAny_L_call rfl rfl rfl (by decide +kernel) ⟨Nat.le_of_ble_eq_true rfl, Nat.le_of_ble_eq_true rfl⟩) wl_T9_b (fun U hU hW => wl_T9_w hU hW hS (wl_freeB (bsC := [([(x, .inr (4, [.ref (sa 0), .ref (ja 0), .ref (ta 0), .ref h, .ref q]))] : va_W)]) (bsR := [txW cy ta q_z0]) hD hS hA) hX) hK hP hD hS hA rfl hl.1 rfl (Nat.le_of_ble_eq_true rfl) dL_refusesAny_87 ⟨Nat.le_of_ble_eq_true rfl, Nat.le_of_ble_eq_true rfl⟩ (fun r12 bs13 H locs e14 _ _ hP hD hS => ?_)
  obtain ⟨er12, e14⟩ : r12 = (-10) ∧ bs13 = [([(x, .inr (4, [.ref (sa 0), .ref (ja 0), .ref (ta 0), .ref h, .ref q]))] : va_W)] := e14
  subst e14
  subst er12
  refine W.widen (k := 3) (n := 18) (Nat.le_refl _) (Nat.le_refl _) ?_
  have hP : va_P D vwCl ([([(x, .inr (4, [.ref (sa 0), .ref (ja 0), .ref (ta 0), .ref h, .ref q]))] : va_W), txW cy ta q_z0] : List va_W).flatten H := hP
  have hD : va_D A ([([(x, .inr (4, [.ref (sa 0), .ref (ja 0), .ref (ta 0), .ref h, .ref q]))] : va_W), txW cy ta q_z0] : List va_W).flatten := hD
  refine lv_bipush (v := (-10)) hx hb dL_refusesAny_90 (by decide) ?_
  refine lv_icmp_ne (tgt := 333) hx hb dL_refusesAny_92 (by decide) (fun c15 => absurd rfl c15) (fun c15 => ?_)
  refine lv_aload_n hx hb dL_refusesAny_95 rfl (lv_at hl 2 rfl) ?_
  refine lv_iconst (v := 1) hx hb dL_refusesAny_96 (by decide) ?_
  refine lv_iconst (v := 0) hx hb dL_refusesAny_97 (by decide) ?_
  refine lv_iload_n hx hb dL_refusesAny_98 rfl (lv_at hl 3 rfl) ?_
  refine lv_iconst (v := 2) hx hb dL_refusesAny_99 (by decide) ?_
  refine lv_irem hx hb dL_refusesAny_100 (by decide) ?_
  refine wl_top (y := nI (y % 2)) (pk_rem (a := y) (d := 2) (by omega) (by omega) (by omega)) ?_
  refine wl_if_ne (tgt := 108) hx hb (y % 2) dL_refusesAny_101 (by decide) (by omega) (fun c16 => absurd c16 (by omega)) (fun c16 => ?_)
  refine lv_iconst (v := (-1)) hx hb dL_refusesAny_104 (by decide) ?_
  refine lv_goto (tgt := 110) hx hb dL_refusesAny_105 (by decide) ?_
  refine wl_iSW (As := [.ref x, .int 1, .int 0, .int (-1)]) (rest := []) (bsC := [([(x, .inr (4, [.ref (sa 0), .ref (ja 0), .ref (ta 0), .ref h, .ref q]))] : va_W)]) (bsR := [txW cy ta q_z0]) ⟨hx, hb, hml, hown, hts⟩ (b_c_loss2 l hl0 D cy x sa ja ta h q 0 (-1) H.size (by decide) (by decide)) (vx_cwSW 4 hts gL_refusesAny_L_call rfl rfl rfl (by decide +kernel) ⟨Nat.le_of_ble_eq_true rfl, Nat.le_of_ble_eq_true rfl⟩) wl_T9_b (fun U hU hW => wl_T9_w hU hW hS (wl_freeB (bsC := [([(x, .inr (4, [.ref (sa 0), .ref (ja 0), .ref (ta 0), .ref h, .ref q]))] : va_W)]) (bsR := [txW cy ta q_z0]) hD hS hA) hX) hK hP hD hS hA rfl hl.1 rfl (Nat.le_of_ble_eq_true rfl) dL_refusesAny_110 ⟨Nat.le_of_ble_eq_true rfl, Nat.le_of_ble_eq_true rfl⟩ (fun r17 bs18 H locs e19 _ _ hP hD hS => ?_)
  obtain ⟨er17, e19⟩ : r17 = (-11) ∧ bs18 = [([(x, .inr (4, [.ref (sa 0), .ref (ja 0), .ref (ta 0), .ref h, .ref q]))] : va_W)] := e19
  subst e19
  subst er17
  refine W.widen (k := 4) (n := 24) (Nat.le_refl _) (Nat.le_refl _) ?_
  have hP : va_P D vwCl ([([(x, .inr (4, [.ref (sa 0), .ref (ja 0), .ref (ta 0), .ref h, .ref q]))] : va_W), txW cy ta q_z0] : List va_W).flatten H := hP
  have hD : va_D A ([([(x, .inr (4, [.ref (sa 0), .ref (ja 0), .ref (ta 0), .ref h, .ref q]))] : va_W), txW cy ta q_z0] : List va_W).flatten := hD
  refine lv_bipush (v := (-11)) hx hb dL_refusesAny_113 (by decide) ?_
  refine lv_icmp_ne (tgt := 333) hx hb dL_refusesAny_115 (by decide) (fun c20 => absurd rfl c20) (fun c20 => ?_)
  refine lv_aload_n hx hb dL_refusesAny_118 rfl (lv_at hl 2 rfl) ?_
  refine lv_iconst (v := 2) hx hb dL_refusesAny_119 (by decide) ?_
  refine lv_iload_n hx hb dL_refusesAny_120 rfl (lv_at hl 3 rfl) ?_
  refine lv_iconst (v := 2) hx hb dL_refusesAny_121 (by decide) ?_
  refine lv_irem hx hb dL_refusesAny_122 (by decide) ?_
  refine wl_top (y := nI (y % 2)) (pk_rem (a := y) (d := 2) (by omega) (by omega) (by omega)) ?_
  refine wl_if_ne (tgt := 130) hx hb (y % 2) dL_refusesAny_123 (by decide) (by omega) (fun c21 => absurd c21 (by omega)) (fun c21 => ?_)
  refine lv_iconst (v := (-1)) hx hb dL_refusesAny_126 (by decide) ?_
  refine lv_goto (tgt := 131) hx hb dL_refusesAny_127 (by decide) ?_
  refine lv_sipush (v := 999) hx hb dL_refusesAny_131 (by decide) ?_
  refine wl_iSW (As := [.ref x, .int 2, .int (-1), .int 999]) (rest := []) (bsC := [([(x, .inr (4, [.ref (sa 0), .ref (ja 0), .ref (ta 0), .ref h, .ref q]))] : va_W)]) (bsR := [txW cy ta q_z0]) ⟨hx, hb, hml, hown, hts⟩ (b_c_set1 l hl0 D cy x sa ja ta h q (-1) 999 H.size (by decide)) (vx_cwSW 4 hts gL_refusesAny_L_call rfl rfl rfl (by decide +kernel) ⟨Nat.le_of_ble_eq_true rfl, Nat.le_of_ble_eq_true rfl⟩) wl_T9_b (fun U hU hW => wl_T9_w hU hW hS (wl_freeB (bsC := [([(x, .inr (4, [.ref (sa 0), .ref (ja 0), .ref (ta 0), .ref h, .ref q]))] : va_W)]) (bsR := [txW cy ta q_z0]) hD hS hA) hX) hK hP hD hS hA rfl hl.1 rfl (Nat.le_of_ble_eq_true rfl) dL_refusesAny_134 ⟨Nat.le_of_ble_eq_true rfl, Nat.le_of_ble_eq_true rfl⟩ (fun r22 bs23 H locs e24 _ _ hP hD hS => ?_)
  obtain ⟨er22, e24⟩ : r22 = (-10) ∧ bs23 = [([(x, .inr (4, [.ref (sa 0), .ref (ja 0), .ref (ta 0), .ref h, .ref q]))] : va_W)] := e24
  subst e24
  subst er22
  refine W.widen (k := 5) (n := 30) (Nat.le_refl _) (Nat.le_refl _) ?_
  have hP : va_P D vwCl ([([(x, .inr (4, [.ref (sa 0), .ref (ja 0), .ref (ta 0), .ref h, .ref q]))] : va_W), txW cy ta q_z0] : List va_W).flatten H := hP
  have hD : va_D A ([([(x, .inr (4, [.ref (sa 0), .ref (ja 0), .ref (ta 0), .ref h, .ref q]))] : va_W), txW cy ta q_z0] : List va_W).flatten := hD
  refine lv_bipush (v := (-10)) hx hb dL_refusesAny_137 (by decide) ?_
  refine lv_icmp_ne (tgt := 333) hx hb dL_refusesAny_139 (by decide) (fun c25 => absurd rfl c25) (fun c25 => ?_)
  refine lv_aload_n hx hb dL_refusesAny_142 rfl (lv_at hl 2 rfl) ?_
  refine lv_iconst (v := 2) hx hb dL_refusesAny_143 (by decide) ?_
  refine lv_iconst (v := 0) hx hb dL_refusesAny_144 (by decide) ?_
  refine lv_iload_n hx hb dL_refusesAny_145 rfl (lv_at hl 3 rfl) ?_
  refine lv_iconst (v := 2) hx hb dL_refusesAny_146 (by decide) ?_
  refine lv_irem hx hb dL_refusesAny_147 (by decide) ?_
  refine wl_top (y := nI (y % 2)) (pk_rem (a := y) (d := 2) (by omega) (by omega) (by omega)) ?_
  refine wl_if_ne (tgt := 155) hx hb (y % 2) dL_refusesAny_148 (by decide) (by omega) (fun c26 => absurd c26 (by omega)) (fun c26 => ?_)
  refine lv_iconst (v := 1) hx hb dL_refusesAny_151 (by decide) ?_
  refine lv_goto (tgt := 157) hx hb dL_refusesAny_152 (by decide) ?_
  refine wl_iSW (As := [.ref x, .int 2, .int 0, .int 1]) (rest := []) (bsC := [([(x, .inr (4, [.ref (sa 0), .ref (ja 0), .ref (ta 0), .ref h, .ref q]))] : va_W)]) (bsR := [txW cy ta q_z0]) ⟨hx, hb, hml, hown, hts⟩ (b_c_set2 l hl0 D cy x sa ja ta h q 0 1 H.size (by decide) (by decide)) (vx_cwSW 4 hts gL_refusesAny_L_call rfl rfl rfl (by decide +kernel) ⟨Nat.le_of_ble_eq_true rfl, Nat.le_of_ble_eq_true rfl⟩) wl_T9_b (fun U hU hW => wl_T9_w hU hW hS (wl_freeB (bsC := [([(x, .inr (4, [.ref (sa 0), .ref (ja 0), .ref (ta 0), .ref h, .ref q]))] : va_W)]) (bsR := [txW cy ta q_z0]) hD hS hA) hX) hK hP hD hS hA rfl hl.1 rfl (Nat.le_of_ble_eq_true rfl) dL_refusesAny_157 ⟨Nat.le_of_ble_eq_true rfl, Nat.le_of_ble_eq_true rfl⟩ (fun r27 bs28 H locs e29 _ _ hP hD hS => ?_)
  obtain ⟨er27, e29⟩ : r27 = (-11) ∧ bs28 = [([(x, .inr (4, [.ref (sa 0), .ref (ja 0), .ref (ta 0), .ref h, .ref q]))] : va_W)] := e29
  subst e29
  subst er27
  refine W.widen (k := 6) (n := 36) (Nat.le_refl _) (Nat.le_refl _) ?_
  have hP : va_P D vwCl ([([(x, .inr (4, [.ref (sa 0), .ref (ja 0), .ref (ta 0), .ref h, .ref q]))] : va_W), txW cy ta q_z0] : List va_W).flatten H := hP
  have hD : va_D A ([([(x, .inr (4, [.ref (sa 0), .ref (ja 0), .ref (ta 0), .ref h, .ref q]))] : va_W), txW cy ta q_z0] : List va_W).flatten := hD
  refine lv_bipush (v := (-11)) hx hb dL_refusesAny_160 (by decide) ?_
  refine lv_icmp_ne (tgt := 333) hx hb dL_refusesAny_162 (by decide) (fun c30 => absurd rfl c30) (fun c30 => ?_)
  refine lv_aload_n hx hb dL_refusesAny_165 rfl (lv_at hl 2 rfl) ?_
  refine lv_iconst (v := 2) hx hb dL_refusesAny_166 (by decide) ?_
  refine lv_iconst (v := 1) hx hb dL_refusesAny_167 (by decide) ?_
  refine lv_iload_n hx hb dL_refusesAny_168 rfl (lv_at hl 3 rfl) ?_
  refine lv_iconst (v := 2) hx hb dL_refusesAny_169 (by decide) ?_
  refine lv_irem hx hb dL_refusesAny_170 (by decide) ?_
  refine wl_top (y := nI (y % 2)) (pk_rem (a := y) (d := 2) (by omega) (by omega) (by omega)) ?_
  refine wl_if_ne (tgt := 178) hx hb (y % 2) dL_refusesAny_171 (by decide) (by omega) (fun c31 => absurd c31 (by omega)) (fun c31 => ?_)
  refine lv_iconst (v := (-1)) hx hb dL_refusesAny_174 (by decide) ?_
  refine lv_goto (tgt := 179) hx hb dL_refusesAny_175 (by decide) ?_
  refine wl_iSW (As := [.ref x, .int 2, .int 1, .int (-1)]) (rest := []) (bsC := [([(x, .inr (4, [.ref (sa 0), .ref (ja 0), .ref (ta 0), .ref h, .ref q]))] : va_W)]) (bsR := [txW cy ta q_z0]) ⟨hx, hb, hml, hown, hts⟩ (b_c_set2 l hl0 D cy x sa ja ta h q 1 (-1) H.size (by decide) (by decide)) (vx_cwSW 4 hts gL_refusesAny_L_call rfl rfl rfl (by decide +kernel) ⟨Nat.le_of_ble_eq_true rfl, Nat.le_of_ble_eq_true rfl⟩) wl_T9_b (fun U hU hW => wl_T9_w hU hW hS (wl_freeB (bsC := [([(x, .inr (4, [.ref (sa 0), .ref (ja 0), .ref (ta 0), .ref h, .ref q]))] : va_W)]) (bsR := [txW cy ta q_z0]) hD hS hA) hX) hK hP hD hS hA rfl hl.1 rfl (Nat.le_of_ble_eq_true rfl) dL_refusesAny_179 ⟨Nat.le_of_ble_eq_true rfl, Nat.le_of_ble_eq_true rfl⟩ (fun r32 bs33 H locs e34 _ _ hP hD hS => ?_)
  obtain ⟨er32, e34⟩ : r32 = (-11) ∧ bs33 = [([(x, .inr (4, [.ref (sa 0), .ref (ja 0), .ref (ta 0), .ref h, .ref q]))] : va_W)] := e34
  subst e34
  subst er32
  refine W.widen (k := 7) (n := 42) (Nat.le_refl _) (Nat.le_refl _) ?_
  have hP : va_P D vwCl ([([(x, .inr (4, [.ref (sa 0), .ref (ja 0), .ref (ta 0), .ref h, .ref q]))] : va_W), txW cy ta q_z0] : List va_W).flatten H := hP
  have hD : va_D A ([([(x, .inr (4, [.ref (sa 0), .ref (ja 0), .ref (ta 0), .ref h, .ref q]))] : va_W), txW cy ta q_z0] : List va_W).flatten := hD
  refine lv_bipush (v := (-11)) hx hb dL_refusesAny_182 (by decide) ?_
  refine lv_icmp_ne (tgt := 333) hx hb dL_refusesAny_184 (by decide) (fun c35 => absurd rfl c35) (fun c35 => ?_)
  refine lv_aload_n hx hb dL_refusesAny_187 rfl (lv_at hl 2 rfl) ?_
  refine lv_iconst (v := 2) hx hb dL_refusesAny_188 (by decide) ?_
  refine lv_iconst (v := 2) hx hb dL_refusesAny_189 (by decide) ?_
  refine lv_iload_n hx hb dL_refusesAny_190 rfl (lv_at hl 3 rfl) ?_
  refine lv_iconst (v := 2) hx hb dL_refusesAny_191 (by decide) ?_
  refine lv_irem hx hb dL_refusesAny_192 (by decide) ?_
  refine wl_top (y := nI (y % 2)) (pk_rem (a := y) (d := 2) (by omega) (by omega) (by omega)) ?_
  refine wl_if_ne (tgt := 200) hx hb (y % 2) dL_refusesAny_193 (by decide) (by omega) (fun c36 => absurd c36 (by omega)) (fun c36 => ?_)
  refine lv_iconst (v := (-1)) hx hb dL_refusesAny_196 (by decide) ?_
  refine lv_goto (tgt := 203) hx hb dL_refusesAny_197 (by decide) ?_
  refine wl_iSW (As := [.ref x, .int 2, .int 2, .int (-1)]) (rest := []) (bsC := [([(x, .inr (4, [.ref (sa 0), .ref (ja 0), .ref (ta 0), .ref h, .ref q]))] : va_W)]) (bsR := [txW cy ta q_z0]) ⟨hx, hb, hml, hown, hts⟩ (b_c_set2 l hl0 D cy x sa ja ta h q 2 (-1) H.size (by decide) (by decide)) (vx_cwSW 4 hts gL_refusesAny_L_call rfl rfl rfl (by decide +kernel) ⟨Nat.le_of_ble_eq_true rfl, Nat.le_of_ble_eq_true rfl⟩) wl_T9_b (fun U hU hW => wl_T9_w hU hW hS (wl_freeB (bsC := [([(x, .inr (4, [.ref (sa 0), .ref (ja 0), .ref (ta 0), .ref h, .ref q]))] : va_W)]) (bsR := [txW cy ta q_z0]) hD hS hA) hX) hK hP hD hS hA rfl hl.1 rfl (Nat.le_of_ble_eq_true rfl) dL_refusesAny_203 ⟨Nat.le_of_ble_eq_true rfl, Nat.le_of_ble_eq_true rfl⟩ (fun r37 bs38 H locs e39 _ _ hP hD hS => ?_)
  obtain ⟨er37, e39⟩ : r37 = (-11) ∧ bs38 = [([(x, .inr (4, [.ref (sa 0), .ref (ja 0), .ref (ta 0), .ref h, .ref q]))] : va_W)] := e39
  subst e39
  subst er37
  refine W.widen (k := 8) (n := 48) (Nat.le_refl _) (Nat.le_refl _) ?_
  have hP : va_P D vwCl ([([(x, .inr (4, [.ref (sa 0), .ref (ja 0), .ref (ta 0), .ref h, .ref q]))] : va_W), txW cy ta q_z0] : List va_W).flatten H := hP
  have hD : va_D A ([([(x, .inr (4, [.ref (sa 0), .ref (ja 0), .ref (ta 0), .ref h, .ref q]))] : va_W), txW cy ta q_z0] : List va_W).flatten := hD
  refine lv_bipush (v := (-11)) hx hb dL_refusesAny_206 (by decide) ?_
  refine lv_icmp_ne (tgt := 333) hx hb dL_refusesAny_208 (by decide) (fun c40 => absurd rfl c40) (fun c40 => ?_)
  refine lv_aload_n hx hb dL_refusesAny_211 rfl (lv_at hl 2 rfl) ?_
  refine lv_iconst (v := 3) hx hb dL_refusesAny_212 (by decide) ?_
  refine lv_iload_n hx hb dL_refusesAny_213 rfl (lv_at hl 3 rfl) ?_
  refine lv_iconst (v := 2) hx hb dL_refusesAny_214 (by decide) ?_
  refine lv_irem hx hb dL_refusesAny_215 (by decide) ?_
  refine wl_top (y := nI (y % 2)) (pk_rem (a := y) (d := 2) (by omega) (by omega) (by omega)) ?_
  refine wl_if_ne (tgt := 223) hx hb (y % 2) dL_refusesAny_216 (by decide) (by omega) (fun c41 => absurd c41 (by omega)) (fun c41 => ?_)
  refine lv_iconst (v := 0) hx hb dL_refusesAny_219 (by decide) ?_
  refine lv_goto (tgt := 225) hx hb dL_refusesAny_220 (by decide) ?_
  refine lv_iconst (v := 0) hx hb dL_refusesAny_225 (by decide) ?_
  refine wl_iSW (As := [.ref x, .int 3, .int 0, .int 0]) (rest := []) (bsC := [([(x, .inr (4, [.ref (sa 0), .ref (ja 0), .ref (ta 0), .ref h, .ref q]))] : va_W)]) (bsR := [txW cy ta q_z0]) ⟨hx, hb, hml, hown, hts⟩ (b_c_pulse1 l hl0 D cy x sa ja ta h q 0 0 H.size (by decide)) (vx_cwSW 4 hts gL_refusesAny_L_call rfl rfl rfl (by decide +kernel) ⟨Nat.le_of_ble_eq_true rfl, Nat.le_of_ble_eq_true rfl⟩) wl_T9_b (fun U hU hW => wl_T9_w hU hW hS (wl_freeB (bsC := [([(x, .inr (4, [.ref (sa 0), .ref (ja 0), .ref (ta 0), .ref h, .ref q]))] : va_W)]) (bsR := [txW cy ta q_z0]) hD hS hA) hX) hK hP hD hS hA rfl hl.1 rfl (Nat.le_of_ble_eq_true rfl) dL_refusesAny_226 ⟨Nat.le_of_ble_eq_true rfl, Nat.le_of_ble_eq_true rfl⟩ (fun r42 bs43 H locs e44 _ _ hP hD hS => ?_)
  obtain ⟨er42, e44⟩ : r42 = (-11) ∧ bs43 = [([(x, .inr (4, [.ref (sa 0), .ref (ja 0), .ref (ta 0), .ref h, .ref q]))] : va_W)] := e44
  subst e44
  subst er42
  refine W.widen (k := 9) (n := 54) (Nat.le_refl _) (Nat.le_refl _) ?_
  have hP : va_P D vwCl ([([(x, .inr (4, [.ref (sa 0), .ref (ja 0), .ref (ta 0), .ref h, .ref q]))] : va_W), txW cy ta q_z0] : List va_W).flatten H := hP
  have hD : va_D A ([([(x, .inr (4, [.ref (sa 0), .ref (ja 0), .ref (ta 0), .ref h, .ref q]))] : va_W), txW cy ta q_z0] : List va_W).flatten := hD
  refine lv_bipush (v := (-11)) hx hb dL_refusesAny_229 (by decide) ?_
  refine lv_icmp_ne (tgt := 333) hx hb dL_refusesAny_231 (by decide) (fun c45 => absurd rfl c45) (fun c45 => ?_)
  refine lv_aload_n hx hb dL_refusesAny_234 rfl (lv_at hl 2 rfl) ?_
  refine lv_iconst (v := 4) hx hb dL_refusesAny_235 (by decide) ?_
  refine lv_iload_n hx hb dL_refusesAny_236 rfl (lv_at hl 0 rfl) ?_
  refine lv_iconst (v := 0) hx hb dL_refusesAny_237 (by decide) ?_
  refine wl_iSW (As := [.ref x, .int 4, .int ((-1) - (nI (y % 99))), .int 0]) (rest := []) (bsC := [([(x, .inr (4, [.ref (sa 0), .ref (ja 0), .ref (ta 0), .ref h, .ref q]))] : va_W)]) (bsR := [txW cy ta q_z0]) ⟨hx, hb, hml, hown, hts⟩ (b_c_send1 l hl0 D cy x sa ja ta h q ((-1) - (nI (y % 99))) 0 H.size (fun q1 => q1.1 (p_neg _ (Nat.mod_lt _ (by decide))))) (vx_cwSW 4 hts gL_refusesAny_L_call rfl rfl rfl (by decide +kernel) ⟨Nat.le_of_ble_eq_true rfl, Nat.le_of_ble_eq_true rfl⟩) wl_T9_b (fun U hU hW => wl_T9_w hU hW hS (wl_freeB (bsC := [([(x, .inr (4, [.ref (sa 0), .ref (ja 0), .ref (ta 0), .ref h, .ref q]))] : va_W)]) (bsR := [txW cy ta q_z0]) hD hS hA) hX) hK hP hD hS hA rfl hl.1 rfl (Nat.le_of_ble_eq_true rfl) dL_refusesAny_238 ⟨Nat.le_of_ble_eq_true rfl, Nat.le_of_ble_eq_true rfl⟩ (fun r46 bs47 H locs e48 _ _ hP hD hS => ?_)
  obtain ⟨er46, e48⟩ : r46 = (-11) ∧ bs47 = [([(x, .inr (4, [.ref (sa 0), .ref (ja 0), .ref (ta 0), .ref h, .ref q]))] : va_W)] := e48
  subst e48
  subst er46
  refine W.widen (k := 10) (n := 60) (Nat.le_refl _) (Nat.le_refl _) ?_
  have hP : va_P D vwCl ([([(x, .inr (4, [.ref (sa 0), .ref (ja 0), .ref (ta 0), .ref h, .ref q]))] : va_W), txW cy ta q_z0] : List va_W).flatten H := hP
  have hD : va_D A ([([(x, .inr (4, [.ref (sa 0), .ref (ja 0), .ref (ta 0), .ref h, .ref q]))] : va_W), txW cy ta q_z0] : List va_W).flatten := hD
  refine lv_bipush (v := (-11)) hx hb dL_refusesAny_241 (by decide) ?_
  refine lv_icmp_ne (tgt := 333) hx hb dL_refusesAny_243 (by decide) (fun c49 => absurd rfl c49) (fun c49 => ?_)
  refine lv_aload_n hx hb dL_refusesAny_246 rfl (lv_at hl 2 rfl) ?_
  refine lv_iconst (v := 5) hx hb dL_refusesAny_247 (by decide) ?_
  refine lv_iload_n hx hb dL_refusesAny_248 rfl (lv_at hl 3 rfl) ?_
  refine lv_iconst (v := 2) hx hb dL_refusesAny_249 (by decide) ?_
  refine lv_irem hx hb dL_refusesAny_250 (by decide) ?_
  refine wl_top (y := nI (y % 2)) (pk_rem (a := y) (d := 2) (by omega) (by omega) (by omega)) ?_
  refine wl_if_ne (tgt := 259) hx hb (y % 2) dL_refusesAny_251 (by decide) (by omega) (fun c50 => absurd c50 (by omega)) (fun c50 => ?_)
  refine lv_bipush (v := 32) hx hb dL_refusesAny_254 (by decide) ?_
  refine lv_goto (tgt := 261) hx hb dL_refusesAny_256 (by decide) ?_
  refine lv_iconst (v := 0) hx hb dL_refusesAny_261 (by decide) ?_
  refine wl_iSW (As := [.ref x, .int 5, .int 32, .int 0]) (rest := []) (bsC := [([(x, .inr (4, [.ref (sa 0), .ref (ja 0), .ref (ta 0), .ref h, .ref q]))] : va_W)]) (bsR := [txW cy ta q_z0]) ⟨hx, hb, hml, hown, hts⟩ (b_c_append1 l hl0 D cy x sa ja ta h q 32 0 H.size (by decide)) (vx_cwSW 4 hts gL_refusesAny_L_call rfl rfl rfl (by decide +kernel) ⟨Nat.le_of_ble_eq_true rfl, Nat.le_of_ble_eq_true rfl⟩) wl_T9_b (fun U hU hW => wl_T9_w hU hW hS (wl_freeB (bsC := [([(x, .inr (4, [.ref (sa 0), .ref (ja 0), .ref (ta 0), .ref h, .ref q]))] : va_W)]) (bsR := [txW cy ta q_z0]) hD hS hA) hX) hK hP hD hS hA rfl hl.1 rfl (Nat.le_of_ble_eq_true rfl) dL_refusesAny_262 ⟨Nat.le_of_ble_eq_true rfl, Nat.le_of_ble_eq_true rfl⟩ (fun r51 bs52 H locs e53 _ _ hP hD hS => ?_)
  obtain ⟨er51, e53⟩ : r51 = (-11) ∧ bs52 = [([(x, .inr (4, [.ref (sa 0), .ref (ja 0), .ref (ta 0), .ref h, .ref q]))] : va_W)] := e53
  subst e53
  subst er51
  refine W.widen (k := 11) (n := 66) (Nat.le_refl _) (Nat.le_refl _) ?_
  have hP : va_P D vwCl ([([(x, .inr (4, [.ref (sa 0), .ref (ja 0), .ref (ta 0), .ref h, .ref q]))] : va_W), txW cy ta q_z0] : List va_W).flatten H := hP
  have hD : va_D A ([([(x, .inr (4, [.ref (sa 0), .ref (ja 0), .ref (ta 0), .ref h, .ref q]))] : va_W), txW cy ta q_z0] : List va_W).flatten := hD
  refine lv_bipush (v := (-11)) hx hb dL_refusesAny_265 (by decide) ?_
  refine lv_icmp_ne (tgt := 333) hx hb dL_refusesAny_267 (by decide) (fun c54 => absurd rfl c54) (fun c54 => ?_)
  refine lv_aload_n hx hb dL_refusesAny_270 rfl (lv_at hl 2 rfl) ?_
  refine lv_bipush (v := 6) hx hb dL_refusesAny_271 (by decide) ?_
  refine lv_iconst (v := 0) hx hb dL_refusesAny_273 (by decide) ?_
  refine lv_iconst (v := 0) hx hb dL_refusesAny_274 (by decide) ?_
  refine wl_iSW (As := [.ref x, .int 6, .int 0, .int 0]) (rest := []) (bsC := [([(x, .inr (4, [.ref (sa 0), .ref (ja 0), .ref (ta 0), .ref h, .ref q]))] : va_W), txW cy ta q_z0]) (bsR := []) ⟨hx, hb, hml, hown, hts⟩ (b_c_load1 l hl0 D cy x sa ja ta h q q_z0 0 0 0 H.size rfl (by decide) (fun y9 hy9 => absurd hy9 (Nat.not_lt_zero y9)) p_wt0) (vx_cwSW 4 hts gL_refusesAny_L_call rfl rfl rfl (by decide +kernel) ⟨Nat.le_of_ble_eq_true rfl, Nat.le_of_ble_eq_true rfl⟩) wl_T9_b (fun U hU hW => wl_T9_w hU hW hS (wl_freeB (bsC := [([(x, .inr (4, [.ref (sa 0), .ref (ja 0), .ref (ta 0), .ref h, .ref q]))] : va_W), txW cy ta q_z0]) (bsR := []) hD hS hA) hX) hK hP hD hS hA rfl hl.1 rfl (Nat.le_of_ble_eq_true rfl) dL_refusesAny_275 ⟨Nat.le_of_ble_eq_true rfl, Nat.le_of_ble_eq_true rfl⟩ (fun r55 bs56 H locs e57 _ _ hP hD hS => ?_)
  obtain ⟨er55, e57⟩ : r55 = (-11) ∧ bs56 = [([(x, .inr (4, [.ref (sa 0), .ref (ja 0), .ref (ta 0), .ref h, .ref q]))] : va_W), txW cy ta q_z0] := e57
  subst e57
  subst er55
  refine W.widen (k := 12) (n := 72) (Nat.le_refl _) (Nat.le_refl _) ?_
  have hP : va_P D vwCl ([([(x, .inr (4, [.ref (sa 0), .ref (ja 0), .ref (ta 0), .ref h, .ref q]))] : va_W), txW cy ta q_z0] : List va_W).flatten H := hP
  have hD : va_D A ([([(x, .inr (4, [.ref (sa 0), .ref (ja 0), .ref (ta 0), .ref h, .ref q]))] : va_W), txW cy ta q_z0] : List va_W).flatten := hD
  refine lv_bipush (v := (-11)) hx hb dL_refusesAny_278 (by decide) ?_
  refine lv_icmp_ne (tgt := 333) hx hb dL_refusesAny_280 (by decide) (fun c58 => absurd rfl c58) (fun c58 => ?_)
  refine lv_aload_n hx hb dL_refusesAny_283 rfl (lv_at hl 2 rfl) ?_
  refine lv_bipush (v := 7) hx hb dL_refusesAny_284 (by decide) ?_
  refine lv_iload_n hx hb dL_refusesAny_286 rfl (lv_at hl 3 rfl) ?_
  refine lv_iconst (v := 2) hx hb dL_refusesAny_287 (by decide) ?_
  refine lv_irem hx hb dL_refusesAny_288 (by decide) ?_
  refine wl_top (y := nI (y % 2)) (pk_rem (a := y) (d := 2) (by omega) (by omega) (by omega)) ?_
  refine wl_if_ne (tgt := 296) hx hb (y % 2) dL_refusesAny_289 (by decide) (by omega) (fun c59 => absurd c59 (by omega)) (fun c59 => ?_)
  refine lv_iconst (v := (-1)) hx hb dL_refusesAny_292 (by decide) ?_
  refine lv_goto (tgt := 297) hx hb dL_refusesAny_293 (by decide) ?_
  refine lv_iconst (v := 0) hx hb dL_refusesAny_297 (by decide) ?_
  refine wl_iSW (As := [.ref x, .int 7, .int (-1), .int 0]) (rest := []) (bsC := [([(x, .inr (4, [.ref (sa 0), .ref (ja 0), .ref (ta 0), .ref h, .ref q]))] : va_W)]) (bsR := [txW cy ta q_z0]) ⟨hx, hb, hml, hown, hts⟩ (b_c_keep1 l hl0 D cy x sa ja ta h q (-1) 0 H.size (by decide)) (vx_cwSW 4 hts gL_refusesAny_L_call rfl rfl rfl (by decide +kernel) ⟨Nat.le_of_ble_eq_true rfl, Nat.le_of_ble_eq_true rfl⟩) wl_T9_b (fun U hU hW => wl_T9_w hU hW hS (wl_freeB (bsC := [([(x, .inr (4, [.ref (sa 0), .ref (ja 0), .ref (ta 0), .ref h, .ref q]))] : va_W)]) (bsR := [txW cy ta q_z0]) hD hS hA) hX) hK hP hD hS hA rfl hl.1 rfl (Nat.le_of_ble_eq_true rfl) dL_refusesAny_298 ⟨Nat.le_of_ble_eq_true rfl, Nat.le_of_ble_eq_true rfl⟩ (fun r60 bs61 H locs e62 _ _ hP hD hS => ?_)
  obtain ⟨er60, e62⟩ : r60 = (-11) ∧ bs61 = [([(x, .inr (4, [.ref (sa 0), .ref (ja 0), .ref (ta 0), .ref h, .ref q]))] : va_W)] := e62
  subst e62
  subst er60
  refine W.widen (k := 13) (n := 78) (Nat.le_refl _) (Nat.le_refl _) ?_
  have hP : va_P D vwCl ([([(x, .inr (4, [.ref (sa 0), .ref (ja 0), .ref (ta 0), .ref h, .ref q]))] : va_W), txW cy ta q_z0] : List va_W).flatten H := hP
  have hD : va_D A ([([(x, .inr (4, [.ref (sa 0), .ref (ja 0), .ref (ta 0), .ref h, .ref q]))] : va_W), txW cy ta q_z0] : List va_W).flatten := hD
  refine lv_bipush (v := (-11)) hx hb dL_refusesAny_301 (by decide) ?_
  refine lv_icmp_ne (tgt := 333) hx hb dL_refusesAny_303 (by decide) (fun c63 => absurd rfl c63) (fun c63 => ?_)
  refine lv_aload_n hx hb dL_refusesAny_306 rfl (lv_at hl 2 rfl) ?_
  refine lv_bipush (v := 8) hx hb dL_refusesAny_307 (by decide) ?_
  refine lv_iload_n hx hb dL_refusesAny_309 rfl (lv_at hl 3 rfl) ?_
  refine lv_iconst (v := 2) hx hb dL_refusesAny_310 (by decide) ?_
  refine lv_irem hx hb dL_refusesAny_311 (by decide) ?_
  refine wl_top (y := nI (y % 2)) (pk_rem (a := y) (d := 2) (by omega) (by omega) (by omega)) ?_
  refine wl_if_ne (tgt := 319) hx hb (y % 2) dL_refusesAny_312 (by decide) (by omega) (fun c64 => absurd c64 (by omega)) (fun c64 => ?_)
  refine lv_iconst (v := (-1)) hx hb dL_refusesAny_315 (by decide) ?_
  refine lv_goto (tgt := 320) hx hb dL_refusesAny_316 (by decide) ?_
  refine lv_iconst (v := 0) hx hb dL_refusesAny_320 (by decide) ?_
  refine wl_iSW (As := [.ref x, .int 8, .int (-1), .int 0]) (rest := []) (bsC := [([(x, .inr (4, [.ref (sa 0), .ref (ja 0), .ref (ta 0), .ref h, .ref q]))] : va_W)]) (bsR := [txW cy ta q_z0]) ⟨hx, hb, hml, hown, hts⟩ (b_c_goBack1 l hl0 D cy x sa ja ta h q (-1) 0 H.size (by decide)) (vx_cwSW 4 hts gL_refusesAny_L_call rfl rfl rfl (by decide +kernel) ⟨Nat.le_of_ble_eq_true rfl, Nat.le_of_ble_eq_true rfl⟩) wl_T9_b (fun U hU hW => wl_T9_w hU hW hS (wl_freeB (bsC := [([(x, .inr (4, [.ref (sa 0), .ref (ja 0), .ref (ta 0), .ref h, .ref q]))] : va_W)]) (bsR := [txW cy ta q_z0]) hD hS hA) hX) hK hP hD hS hA rfl hl.1 rfl (Nat.le_of_ble_eq_true rfl) dL_refusesAny_321 ⟨Nat.le_of_ble_eq_true rfl, Nat.le_of_ble_eq_true rfl⟩ (fun r65 bs66 H locs e67 _ _ hP hD hS => ?_)
  obtain ⟨er65, e67⟩ : r65 = (-11) ∧ bs66 = [([(x, .inr (4, [.ref (sa 0), .ref (ja 0), .ref (ta 0), .ref h, .ref q]))] : va_W)] := e67
  subst e67
  subst er65
  refine W.widen (k := 14) (n := 84) (Nat.le_refl _) (Nat.le_refl _) ?_
  have hP : va_P D vwCl ([([(x, .inr (4, [.ref (sa 0), .ref (ja 0), .ref (ta 0), .ref h, .ref q]))] : va_W), txW cy ta q_z0] : List va_W).flatten H := hP
  have hD : va_D A ([([(x, .inr (4, [.ref (sa 0), .ref (ja 0), .ref (ta 0), .ref h, .ref q]))] : va_W), txW cy ta q_z0] : List va_W).flatten := hD
  refine lv_bipush (v := (-11)) hx hb dL_refusesAny_324 (by decide) ?_
  refine lv_icmp_ne (tgt := 333) hx hb dL_refusesAny_326 (by decide) (fun c68 => absurd rfl c68) (fun c68 => ?_)
  refine lv_iconst (v := 1) hx hb dL_refusesAny_329 (by decide) ?_
  refine lv_goto (tgt := 334) hx hb dL_refusesAny_330 (by decide) ?_
  refine lv_istore (lv' := [(4, .int 1), (3, .int ((-1) - (nI (y % 99)))), (2, .int ((-1) - (nI (y % 99)))), (0, .ref x), (1, .int (nI y))]) hx hb dL_refusesAny_334 hl (by decide) rfl (fun ls hl => ?_)
  refine lv_iload hx hb dL_refusesAny_336 (lv_at hl 0 rfl) ?_
  refine wl_if_eq (tgt := 516) hx hb 1 dL_refusesAny_338 (by decide) (by omega) (fun c69 => absurd c69 (by decide)) (fun c69 => ?_)
  refine lv_aload_n hx hb dL_refusesAny_341 rfl (lv_at hl 3 rfl) ?_
  refine lv_iconst (v := 0) hx hb dL_refusesAny_342 (by decide) ?_
  refine lv_iload_n hx hb dL_refusesAny_343 rfl (lv_at hl 2 rfl) ?_
  refine lv_bipush (v := 9) hx hb dL_refusesAny_344 (by decide) ?_
  refine wl_iSW (As := [.ref x, .int 0, .int ((-1) - (nI (y % 99))), .int 9]) (rest := []) (bsC := [([(x, .inr (4, [.ref (sa 0), .ref (ja 0), .ref (ta 0), .ref h, .ref q]))] : va_W)]) (bsR := [txW cy ta q_z0]) ⟨hx, hb, hml, hown, hts⟩ (b_a_lampOf1 l hl0 D cy x sa ja ta h q ((-1) - (nI (y % 99))) 9 H.size (fun q1 => q1.1 (p_neg _ (Nat.mod_lt _ (by decide))))) (vx_cwSW 4 hts gL_refusesAny_L_ask rfl rfl rfl (by decide +kernel) ⟨Nat.le_of_ble_eq_true rfl, Nat.le_of_ble_eq_true rfl⟩) wl_T9_b (fun U hU hW => wl_T9_w hU hW hS (wl_freeB (bsC := [([(x, .inr (4, [.ref (sa 0), .ref (ja 0), .ref (ta 0), .ref h, .ref q]))] : va_W)]) (bsR := [txW cy ta q_z0]) hD hS hA) hX) hK hP hD hS hA rfl hl.1 rfl (Nat.le_of_ble_eq_true rfl) dL_refusesAny_346 ⟨Nat.le_of_ble_eq_true rfl, Nat.le_of_ble_eq_true rfl⟩ (fun r70 bs71 H locs e72 _ _ hP hD hS => ?_)
  obtain ⟨er70, e72⟩ : r70 = (-10) ∧ bs71 = [([(x, .inr (4, [.ref (sa 0), .ref (ja 0), .ref (ta 0), .ref h, .ref q]))] : va_W)] := e72
  subst e72
  subst er70
  refine W.widen (k := 15) (n := 90) (Nat.le_refl _) (Nat.le_refl _) ?_
  have hP : va_P D vwCl ([([(x, .inr (4, [.ref (sa 0), .ref (ja 0), .ref (ta 0), .ref h, .ref q]))] : va_W), txW cy ta q_z0] : List va_W).flatten H := hP
  have hD : va_D A ([([(x, .inr (4, [.ref (sa 0), .ref (ja 0), .ref (ta 0), .ref h, .ref q]))] : va_W), txW cy ta q_z0] : List va_W).flatten := hD
  refine lv_bipush (v := (-10)) hx hb dL_refusesAny_349 (by decide) ?_
  refine lv_icmp_ne (tgt := 516) hx hb dL_refusesAny_351 (by decide) (fun c73 => absurd rfl c73) (fun c73 => ?_)
  refine lv_aload_n hx hb dL_refusesAny_354 rfl (lv_at hl 3 rfl) ?_
  refine lv_iconst (v := 0) hx hb dL_refusesAny_355 (by decide) ?_
  refine lv_iconst (v := 0) hx hb dL_refusesAny_356 (by decide) ?_
  refine lv_iload_n hx hb dL_refusesAny_357 rfl (lv_at hl 4 rfl) ?_
  refine lv_iconst (v := 2) hx hb dL_refusesAny_358 (by decide) ?_
  refine lv_irem hx hb dL_refusesAny_359 (by decide) ?_
  refine wl_top (y := nI (y % 2)) (pk_rem (a := y) (d := 2) (by omega) (by omega) (by omega)) ?_
  refine wl_if_ne (tgt := 367) hx hb (y % 2) dL_refusesAny_360 (by decide) (by omega) (fun c74 => absurd c74 (by omega)) (fun c74 => ?_)
  refine lv_iconst (v := (-1)) hx hb dL_refusesAny_363 (by decide) ?_
  refine lv_goto (tgt := 369) hx hb dL_refusesAny_364 (by decide) ?_
  refine wl_iSW (As := [.ref x, .int 0, .int 0, .int (-1)]) (rest := []) (bsC := [([(x, .inr (4, [.ref (sa 0), .ref (ja 0), .ref (ta 0), .ref h, .ref q]))] : va_W)]) (bsR := [txW cy ta q_z0]) ⟨hx, hb, hml, hown, hts⟩ (b_a_lampOf2 l hl0 D cy x sa ja ta h q 0 (-1) H.size (by decide) (by decide)) (vx_cwSW 4 hts gL_refusesAny_L_ask rfl rfl rfl (by decide +kernel) ⟨Nat.le_of_ble_eq_true rfl, Nat.le_of_ble_eq_true rfl⟩) wl_T9_b (fun U hU hW => wl_T9_w hU hW hS (wl_freeB (bsC := [([(x, .inr (4, [.ref (sa 0), .ref (ja 0), .ref (ta 0), .ref h, .ref q]))] : va_W)]) (bsR := [txW cy ta q_z0]) hD hS hA) hX) hK hP hD hS hA rfl hl.1 rfl (Nat.le_of_ble_eq_true rfl) dL_refusesAny_369 ⟨Nat.le_of_ble_eq_true rfl, Nat.le_of_ble_eq_true rfl⟩ (fun r75 bs76 H locs e77 _ _ hP hD hS => ?_)
  obtain ⟨er75, e77⟩ : r75 = (-11) ∧ bs76 = [([(x, .inr (4, [.ref (sa 0), .ref (ja 0), .ref (ta 0), .ref h, .ref q]))] : va_W)] := e77
  subst e77
  subst er75
  refine W.widen (k := 16) (n := 96) (Nat.le_refl _) (Nat.le_refl _) ?_
  have hP : va_P D vwCl ([([(x, .inr (4, [.ref (sa 0), .ref (ja 0), .ref (ta 0), .ref h, .ref q]))] : va_W), txW cy ta q_z0] : List va_W).flatten H := hP
  have hD : va_D A ([([(x, .inr (4, [.ref (sa 0), .ref (ja 0), .ref (ta 0), .ref h, .ref q]))] : va_W), txW cy ta q_z0] : List va_W).flatten := hD
  refine lv_bipush (v := (-11)) hx hb dL_refusesAny_372 (by decide) ?_
  refine lv_icmp_ne (tgt := 516) hx hb dL_refusesAny_374 (by decide) (fun c78 => absurd rfl c78) (fun c78 => ?_)
  refine lv_aload_n hx hb dL_refusesAny_377 rfl (lv_at hl 3 rfl) ?_
  refine lv_iconst (v := 1) hx hb dL_refusesAny_378 (by decide) ?_
  refine lv_iconst (v := (-1)) hx hb dL_refusesAny_379 (by decide) ?_
  refine lv_iload_n hx hb dL_refusesAny_380 rfl (lv_at hl 4 rfl) ?_
  refine lv_bipush (v := 99) hx hb dL_refusesAny_381 (by decide) ?_
  refine lv_irem hx hb dL_refusesAny_383 (by decide) ?_
  refine wl_top (y := nI (y % 99)) (pk_rem (a := y) (d := 99) (by omega) (by omega) (by omega)) ?_
  refine lv_isub hx hb dL_refusesAny_384 ?_
  refine lv_iconst (v := 0) hx hb dL_refusesAny_385 (by decide) ?_
  refine wl_iSW (As := [.ref x, .int 1, .int ((-1) - (nI (y % 99))), .int 0]) (rest := []) (bsC := [([(x, .inr (4, [.ref (sa 0), .ref (ja 0), .ref (ta 0), .ref h, .ref q]))] : va_W)]) (bsR := [txW cy ta q_z0]) ⟨hx, hb, hml, hown, hts⟩ (b_a_pulseAt1 l hl0 D cy x sa ja ta h q ((-1) - (nI (y % 99))) 0 H.size (p_neg _ (Nat.mod_lt _ (by decide)))) (vx_cwSW 4 hts gL_refusesAny_L_ask rfl rfl rfl (by decide +kernel) ⟨Nat.le_of_ble_eq_true rfl, Nat.le_of_ble_eq_true rfl⟩) wl_T9_b (fun U hU hW => wl_T9_w hU hW hS (wl_freeB (bsC := [([(x, .inr (4, [.ref (sa 0), .ref (ja 0), .ref (ta 0), .ref h, .ref q]))] : va_W)]) (bsR := [txW cy ta q_z0]) hD hS hA) hX) hK hP hD hS hA rfl hl.1 rfl (Nat.le_of_ble_eq_true rfl) dL_refusesAny_386 ⟨Nat.le_of_ble_eq_true rfl, Nat.le_of_ble_eq_true rfl⟩ (fun r79 bs80 H locs e81 _ _ hP hD hS => ?_)
  obtain ⟨er79, e81⟩ : r79 = (-11) ∧ bs80 = [([(x, .inr (4, [.ref (sa 0), .ref (ja 0), .ref (ta 0), .ref h, .ref q]))] : va_W)] := e81
  subst e81
  subst er79
  refine W.widen (k := 17) (n := 102) (Nat.le_refl _) (Nat.le_refl _) ?_
  have hP : va_P D vwCl ([([(x, .inr (4, [.ref (sa 0), .ref (ja 0), .ref (ta 0), .ref h, .ref q]))] : va_W), txW cy ta q_z0] : List va_W).flatten H := hP
  have hD : va_D A ([([(x, .inr (4, [.ref (sa 0), .ref (ja 0), .ref (ta 0), .ref h, .ref q]))] : va_W), txW cy ta q_z0] : List va_W).flatten := hD
  refine lv_bipush (v := (-11)) hx hb dL_refusesAny_389 (by decide) ?_
  refine lv_icmp_ne (tgt := 516) hx hb dL_refusesAny_391 (by decide) (fun c82 => absurd rfl c82) (fun c82 => ?_)
  refine lv_aload_n hx hb dL_refusesAny_394 rfl (lv_at hl 3 rfl) ?_
  refine lv_iconst (v := 2) hx hb dL_refusesAny_395 (by decide) ?_
  refine lv_iload_n hx hb dL_refusesAny_396 rfl (lv_at hl 4 rfl) ?_
  refine lv_iconst (v := 2) hx hb dL_refusesAny_397 (by decide) ?_
  refine lv_irem hx hb dL_refusesAny_398 (by decide) ?_
  refine wl_top (y := nI (y % 2)) (pk_rem (a := y) (d := 2) (by omega) (by omega) (by omega)) ?_
  refine wl_if_ne (tgt := 406) hx hb (y % 2) dL_refusesAny_399 (by decide) (by omega) (fun c83 => absurd c83 (by omega)) (fun c83 => ?_)
  refine lv_iconst (v := (-1)) hx hb dL_refusesAny_402 (by decide) ?_
  refine lv_goto (tgt := 408) hx hb dL_refusesAny_403 (by decide) ?_
  refine lv_iconst (v := 0) hx hb dL_refusesAny_408 (by decide) ?_
  refine wl_iSW (As := [.ref x, .int 2, .int (-1), .int 0]) (rest := []) (bsC := [([(x, .inr (4, [.ref (sa 0), .ref (ja 0), .ref (ta 0), .ref h, .ref q]))] : va_W)]) (bsR := [txW cy ta q_z0]) ⟨hx, hb, hml, hown, hts⟩ (b_a_count1 l hl0 D cy x sa ja ta h q (-1) 0 H.size (by decide)) (vx_cwSW 4 hts gL_refusesAny_L_ask rfl rfl rfl (by decide +kernel) ⟨Nat.le_of_ble_eq_true rfl, Nat.le_of_ble_eq_true rfl⟩) wl_T9_b (fun U hU hW => wl_T9_w hU hW hS (wl_freeB (bsC := [([(x, .inr (4, [.ref (sa 0), .ref (ja 0), .ref (ta 0), .ref h, .ref q]))] : va_W)]) (bsR := [txW cy ta q_z0]) hD hS hA) hX) hK hP hD hS hA rfl hl.1 rfl (Nat.le_of_ble_eq_true rfl) dL_refusesAny_409 ⟨Nat.le_of_ble_eq_true rfl, Nat.le_of_ble_eq_true rfl⟩ (fun r84 bs85 H locs e86 _ _ hP hD hS => ?_)
  obtain ⟨er84, e86⟩ : r84 = (-11) ∧ bs85 = [([(x, .inr (4, [.ref (sa 0), .ref (ja 0), .ref (ta 0), .ref h, .ref q]))] : va_W)] := e86
  subst e86
  subst er84
  refine W.widen (k := 18) (n := 108) (Nat.le_refl _) (Nat.le_refl _) ?_
  have hP : va_P D vwCl ([([(x, .inr (4, [.ref (sa 0), .ref (ja 0), .ref (ta 0), .ref h, .ref q]))] : va_W), txW cy ta q_z0] : List va_W).flatten H := hP
  have hD : va_D A ([([(x, .inr (4, [.ref (sa 0), .ref (ja 0), .ref (ta 0), .ref h, .ref q]))] : va_W), txW cy ta q_z0] : List va_W).flatten := hD
  refine lv_bipush (v := (-11)) hx hb dL_refusesAny_412 (by decide) ?_
  refine lv_icmp_ne (tgt := 516) hx hb dL_refusesAny_414 (by decide) (fun c87 => absurd rfl c87) (fun c87 => ?_)
  refine lv_aload_n hx hb dL_refusesAny_417 rfl (lv_at hl 3 rfl) ?_
  refine lv_iconst (v := 3) hx hb dL_refusesAny_418 (by decide) ?_
  refine lv_iload_n hx hb dL_refusesAny_419 rfl (lv_at hl 4 rfl) ?_
  refine lv_iconst (v := 2) hx hb dL_refusesAny_420 (by decide) ?_
  refine lv_irem hx hb dL_refusesAny_421 (by decide) ?_
  refine wl_top (y := nI (y % 2)) (pk_rem (a := y) (d := 2) (by omega) (by omega) (by omega)) ?_
  refine wl_if_ne (tgt := 429) hx hb (y % 2) dL_refusesAny_422 (by decide) (by omega) (fun c88 => absurd c88 (by omega)) (fun c88 => ?_)
  refine lv_iconst (v := (-1)) hx hb dL_refusesAny_425 (by decide) ?_
  refine lv_goto (tgt := 430) hx hb dL_refusesAny_426 (by decide) ?_
  refine lv_iconst (v := 0) hx hb dL_refusesAny_430 (by decide) ?_
  refine wl_iSW (As := [.ref x, .int 3, .int (-1), .int 0]) (rest := []) (bsC := [([(x, .inr (4, [.ref (sa 0), .ref (ja 0), .ref (ta 0), .ref h, .ref q]))] : va_W)]) (bsR := [txW cy ta q_z0]) ⟨hx, hb, hml, hown, hts⟩ (b_a_setting1 l hl0 D cy x sa ja ta h q (-1) 0 H.size (by decide)) (vx_cwSW 4 hts gL_refusesAny_L_ask rfl rfl rfl (by decide +kernel) ⟨Nat.le_of_ble_eq_true rfl, Nat.le_of_ble_eq_true rfl⟩) wl_T9_b (fun U hU hW => wl_T9_w hU hW hS (wl_freeB (bsC := [([(x, .inr (4, [.ref (sa 0), .ref (ja 0), .ref (ta 0), .ref h, .ref q]))] : va_W)]) (bsR := [txW cy ta q_z0]) hD hS hA) hX) hK hP hD hS hA rfl hl.1 rfl (Nat.le_of_ble_eq_true rfl) dL_refusesAny_431 ⟨Nat.le_of_ble_eq_true rfl, Nat.le_of_ble_eq_true rfl⟩ (fun r89 bs90 H locs e91 _ _ hP hD hS => ?_)
  obtain ⟨er89, e91⟩ : r89 = (-10) ∧ bs90 = [([(x, .inr (4, [.ref (sa 0), .ref (ja 0), .ref (ta 0), .ref h, .ref q]))] : va_W)] := e91
  subst e91
  subst er89
  refine W.widen (k := 19) (n := 114) (Nat.le_refl _) (Nat.le_refl _) ?_
  have hP : va_P D vwCl ([([(x, .inr (4, [.ref (sa 0), .ref (ja 0), .ref (ta 0), .ref h, .ref q]))] : va_W), txW cy ta q_z0] : List va_W).flatten H := hP
  have hD : va_D A ([([(x, .inr (4, [.ref (sa 0), .ref (ja 0), .ref (ta 0), .ref h, .ref q]))] : va_W), txW cy ta q_z0] : List va_W).flatten := hD
  refine lv_bipush (v := (-10)) hx hb dL_refusesAny_434 (by decide) ?_
  refine lv_icmp_ne (tgt := 516) hx hb dL_refusesAny_436 (by decide) (fun c92 => absurd rfl c92) (fun c92 => ?_)
  refine lv_aload_n hx hb dL_refusesAny_439 rfl (lv_at hl 3 rfl) ?_
  refine lv_iconst (v := 4) hx hb dL_refusesAny_440 (by decide) ?_
  refine lv_iload_n hx hb dL_refusesAny_441 rfl (lv_at hl 2 rfl) ?_
  refine lv_bipush (v := 9) hx hb dL_refusesAny_442 (by decide) ?_
  refine wl_iSW (As := [.ref x, .int 4, .int ((-1) - (nI (y % 99))), .int 9]) (rest := []) (bsC := [([(x, .inr (4, [.ref (sa 0), .ref (ja 0), .ref (ta 0), .ref h, .ref q]))] : va_W)]) (bsR := [txW cy ta q_z0]) ⟨hx, hb, hml, hown, hts⟩ (b_a_ifGap1 l hl0 D cy x sa ja ta h q ((-1) - (nI (y % 99))) 9 H.size (fun q1 => q1.1 (p_neg _ (Nat.mod_lt _ (by decide))))) (vx_cwSW 4 hts gL_refusesAny_L_ask rfl rfl rfl (by decide +kernel) ⟨Nat.le_of_ble_eq_true rfl, Nat.le_of_ble_eq_true rfl⟩) wl_T9_b (fun U hU hW => wl_T9_w hU hW hS (wl_freeB (bsC := [([(x, .inr (4, [.ref (sa 0), .ref (ja 0), .ref (ta 0), .ref h, .ref q]))] : va_W)]) (bsR := [txW cy ta q_z0]) hD hS hA) hX) hK hP hD hS hA rfl hl.1 rfl (Nat.le_of_ble_eq_true rfl) dL_refusesAny_444 ⟨Nat.le_of_ble_eq_true rfl, Nat.le_of_ble_eq_true rfl⟩ (fun r93 bs94 H locs e95 _ _ hP hD hS => ?_)
  obtain ⟨er93, e95⟩ : r93 = (-10) ∧ bs94 = [([(x, .inr (4, [.ref (sa 0), .ref (ja 0), .ref (ta 0), .ref h, .ref q]))] : va_W)] := e95
  subst e95
  subst er93
  refine W.widen (k := 20) (n := 120) (Nat.le_refl _) (Nat.le_refl _) ?_
  have hP : va_P D vwCl ([([(x, .inr (4, [.ref (sa 0), .ref (ja 0), .ref (ta 0), .ref h, .ref q]))] : va_W), txW cy ta q_z0] : List va_W).flatten H := hP
  have hD : va_D A ([([(x, .inr (4, [.ref (sa 0), .ref (ja 0), .ref (ta 0), .ref h, .ref q]))] : va_W), txW cy ta q_z0] : List va_W).flatten := hD
  refine lv_bipush (v := (-10)) hx hb dL_refusesAny_447 (by decide) ?_
  refine lv_icmp_ne (tgt := 516) hx hb dL_refusesAny_449 (by decide) (fun c96 => absurd rfl c96) (fun c96 => ?_)
  refine lv_aload_n hx hb dL_refusesAny_452 rfl (lv_at hl 3 rfl) ?_
  refine lv_iconst (v := 4) hx hb dL_refusesAny_453 (by decide) ?_
  refine lv_iconst (v := 0) hx hb dL_refusesAny_454 (by decide) ?_
  refine lv_iload_n hx hb dL_refusesAny_455 rfl (lv_at hl 4 rfl) ?_
  refine lv_iconst (v := 2) hx hb dL_refusesAny_456 (by decide) ?_
  refine lv_irem hx hb dL_refusesAny_457 (by decide) ?_
  refine wl_top (y := nI (y % 2)) (pk_rem (a := y) (d := 2) (by omega) (by omega) (by omega)) ?_
  refine wl_if_ne (tgt := 465) hx hb (y % 2) dL_refusesAny_458 (by decide) (by omega) (fun c97 => absurd c97 (by omega)) (fun c97 => ?_)
  refine lv_iconst (v := (-1)) hx hb dL_refusesAny_461 (by decide) ?_
  refine lv_goto (tgt := 466) hx hb dL_refusesAny_462 (by decide) ?_
  refine wl_iSW (As := [.ref x, .int 4, .int 0, .int (-1)]) (rest := []) (bsC := [([(x, .inr (4, [.ref (sa 0), .ref (ja 0), .ref (ta 0), .ref h, .ref q]))] : va_W)]) (bsR := [txW cy ta q_z0]) ⟨hx, hb, hml, hown, hts⟩ (b_a_ifGap2 l hl0 D cy x sa ja ta h q 0 (-1) H.size (by decide) (by decide)) (vx_cwSW 4 hts gL_refusesAny_L_ask rfl rfl rfl (by decide +kernel) ⟨Nat.le_of_ble_eq_true rfl, Nat.le_of_ble_eq_true rfl⟩) wl_T9_b (fun U hU hW => wl_T9_w hU hW hS (wl_freeB (bsC := [([(x, .inr (4, [.ref (sa 0), .ref (ja 0), .ref (ta 0), .ref h, .ref q]))] : va_W)]) (bsR := [txW cy ta q_z0]) hD hS hA) hX) hK hP hD hS hA rfl hl.1 rfl (Nat.le_of_ble_eq_true rfl) dL_refusesAny_466 ⟨Nat.le_of_ble_eq_true rfl, Nat.le_of_ble_eq_true rfl⟩ (fun r98 bs99 H locs e100 _ _ hP hD hS => ?_)
  obtain ⟨er98, e100⟩ : r98 = (-11) ∧ bs99 = [([(x, .inr (4, [.ref (sa 0), .ref (ja 0), .ref (ta 0), .ref h, .ref q]))] : va_W)] := e100
  subst e100
  subst er98
  refine W.widen (k := 21) (n := 126) (Nat.le_refl _) (Nat.le_refl _) ?_
  have hP : va_P D vwCl ([([(x, .inr (4, [.ref (sa 0), .ref (ja 0), .ref (ta 0), .ref h, .ref q]))] : va_W), txW cy ta q_z0] : List va_W).flatten H := hP
  have hD : va_D A ([([(x, .inr (4, [.ref (sa 0), .ref (ja 0), .ref (ta 0), .ref h, .ref q]))] : va_W), txW cy ta q_z0] : List va_W).flatten := hD
  refine lv_bipush (v := (-11)) hx hb dL_refusesAny_469 (by decide) ?_
  refine lv_icmp_ne (tgt := 516) hx hb dL_refusesAny_471 (by decide) (fun c101 => absurd rfl c101) (fun c101 => ?_)
  refine lv_aload_n hx hb dL_refusesAny_474 rfl (lv_at hl 3 rfl) ?_
  refine lv_iconst (v := 5) hx hb dL_refusesAny_475 (by decide) ?_
  refine lv_iload_n hx hb dL_refusesAny_476 rfl (lv_at hl 1 rfl) ?_
  refine lv_iconst (v := 0) hx hb dL_refusesAny_477 (by decide) ?_
  refine wl_iSW (As := [.ref x, .int 5, .int ((-1) - (nI (y % 99))), .int 0]) (rest := []) (bsC := [([(x, .inr (4, [.ref (sa 0), .ref (ja 0), .ref (ta 0), .ref h, .ref q]))] : va_W)]) (bsR := [txW cy ta q_z0]) ⟨hx, hb, hml, hown, hts⟩ (b_a_wrong1 l hl0 D cy x sa ja ta h q ((-1) - (nI (y % 99))) 0 H.size (fun q1 => q1.1 (p_neg _ (Nat.mod_lt _ (by decide))))) (vx_cwSW 4 hts gL_refusesAny_L_ask rfl rfl rfl (by decide +kernel) ⟨Nat.le_of_ble_eq_true rfl, Nat.le_of_ble_eq_true rfl⟩) wl_T9_b (fun U hU hW => wl_T9_w hU hW hS (wl_freeB (bsC := [([(x, .inr (4, [.ref (sa 0), .ref (ja 0), .ref (ta 0), .ref h, .ref q]))] : va_W)]) (bsR := [txW cy ta q_z0]) hD hS hA) hX) hK hP hD hS hA rfl hl.1 rfl (Nat.le_of_ble_eq_true rfl) dL_refusesAny_478 ⟨Nat.le_of_ble_eq_true rfl, Nat.le_of_ble_eq_true rfl⟩ (fun r102 bs103 H locs e104 _ _ hP hD hS => ?_)
  obtain ⟨er102, e104⟩ : r102 = (-11) ∧ bs103 = [([(x, .inr (4, [.ref (sa 0), .ref (ja 0), .ref (ta 0), .ref h, .ref q]))] : va_W)] := e104
  subst e104
  subst er102
  refine W.widen (k := 22) (n := 132) (Nat.le_refl _) (Nat.le_refl _) ?_
  have hP : va_P D vwCl ([([(x, .inr (4, [.ref (sa 0), .ref (ja 0), .ref (ta 0), .ref h, .ref q]))] : va_W), txW cy ta q_z0] : List va_W).flatten H := hP
  have hD : va_D A ([([(x, .inr (4, [.ref (sa 0), .ref (ja 0), .ref (ta 0), .ref h, .ref q]))] : va_W), txW cy ta q_z0] : List va_W).flatten := hD
  refine lv_bipush (v := (-11)) hx hb dL_refusesAny_481 (by decide) ?_
  refine lv_icmp_ne (tgt := 516) hx hb dL_refusesAny_483 (by decide) (fun c105 => absurd rfl c105) (fun c105 => ?_)
  refine lv_aload_n hx hb dL_refusesAny_486 rfl (lv_at hl 3 rfl) ?_
  refine lv_bipush (v := 6) hx hb dL_refusesAny_487 (by decide) ?_
  refine lv_iload_n hx hb dL_refusesAny_489 rfl (lv_at hl 2 rfl) ?_
  refine lv_iconst (v := 0) hx hb dL_refusesAny_490 (by decide) ?_
  refine wl_iSW (As := [.ref x, .int 6, .int ((-1) - (nI (y % 99))), .int 0]) (rest := []) (bsC := [([(x, .inr (4, [.ref (sa 0), .ref (ja 0), .ref (ta 0), .ref h, .ref q]))] : va_W)]) (bsR := [txW cy ta q_z0]) ⟨hx, hb, hml, hown, hts⟩ (b_a_bears1 l hl0 D cy x sa ja ta h q ((-1) - (nI (y % 99))) 0 H.size (fun q1 => q1.1 (p_neg _ (Nat.mod_lt _ (by decide))))) (vx_cwSW 4 hts gL_refusesAny_L_ask rfl rfl rfl (by decide +kernel) ⟨Nat.le_of_ble_eq_true rfl, Nat.le_of_ble_eq_true rfl⟩) wl_T9_b (fun U hU hW => wl_T9_w hU hW hS (wl_freeB (bsC := [([(x, .inr (4, [.ref (sa 0), .ref (ja 0), .ref (ta 0), .ref h, .ref q]))] : va_W)]) (bsR := [txW cy ta q_z0]) hD hS hA) hX) hK hP hD hS hA rfl hl.1 rfl (Nat.le_of_ble_eq_true rfl) dL_refusesAny_491 ⟨Nat.le_of_ble_eq_true rfl, Nat.le_of_ble_eq_true rfl⟩ (fun r106 bs107 H locs e108 _ _ hP hD hS => ?_)
  obtain ⟨er106, e108⟩ : r106 = (-10) ∧ bs107 = [([(x, .inr (4, [.ref (sa 0), .ref (ja 0), .ref (ta 0), .ref h, .ref q]))] : va_W)] := e108
  subst e108
  subst er106
  refine W.widen (k := 23) (n := 138) (Nat.le_refl _) (Nat.le_refl _) ?_
  have hP : va_P D vwCl ([([(x, .inr (4, [.ref (sa 0), .ref (ja 0), .ref (ta 0), .ref h, .ref q]))] : va_W), txW cy ta q_z0] : List va_W).flatten H := hP
  have hD : va_D A ([([(x, .inr (4, [.ref (sa 0), .ref (ja 0), .ref (ta 0), .ref h, .ref q]))] : va_W), txW cy ta q_z0] : List va_W).flatten := hD
  refine lv_bipush (v := (-10)) hx hb dL_refusesAny_494 (by decide) ?_
  refine lv_icmp_ne (tgt := 516) hx hb dL_refusesAny_496 (by decide) (fun c109 => absurd rfl c109) (fun c109 => ?_)
  refine lv_aload_n hx hb dL_refusesAny_499 rfl (lv_at hl 3 rfl) ?_
  refine lv_bipush (v := 7) hx hb dL_refusesAny_500 (by decide) ?_
  refine lv_iload_n hx hb dL_refusesAny_502 rfl (lv_at hl 2 rfl) ?_
  refine lv_iconst (v := 0) hx hb dL_refusesAny_503 (by decide) ?_
  refine wl_iSW (As := [.ref x, .int 7, .int ((-1) - (nI (y % 99))), .int 0]) (rest := []) (bsC := [([(x, .inr (4, [.ref (sa 0), .ref (ja 0), .ref (ta 0), .ref h, .ref q]))] : va_W)]) (bsR := [txW cy ta q_z0]) ⟨hx, hb, hml, hown, hts⟩ (b_a_wordsTo1 l hl0 D cy x sa ja ta h q ((-1) - (nI (y % 99))) 0 H.size (fun q1 => q1.1 (p_neg _ (Nat.mod_lt _ (by decide))))) (vx_cwSW 4 hts gL_refusesAny_L_ask rfl rfl rfl (by decide +kernel) ⟨Nat.le_of_ble_eq_true rfl, Nat.le_of_ble_eq_true rfl⟩) wl_T9_b (fun U hU hW => wl_T9_w hU hW hS (wl_freeB (bsC := [([(x, .inr (4, [.ref (sa 0), .ref (ja 0), .ref (ta 0), .ref h, .ref q]))] : va_W)]) (bsR := [txW cy ta q_z0]) hD hS hA) hX) hK hP hD hS hA rfl hl.1 rfl (Nat.le_of_ble_eq_true rfl) dL_refusesAny_504 ⟨Nat.le_of_ble_eq_true rfl, Nat.le_of_ble_eq_true rfl⟩ (fun r110 bs111 H locs e112 _ _ hP hD hS => ?_)
  obtain ⟨er110, e112⟩ : r110 = (-10) ∧ bs111 = [([(x, .inr (4, [.ref (sa 0), .ref (ja 0), .ref (ta 0), .ref h, .ref q]))] : va_W)] := e112
  subst e112
  subst er110
  refine W.widen (k := 24) (n := 144) (Nat.le_refl _) (Nat.le_refl _) ?_
  have hP : va_P D vwCl ([([(x, .inr (4, [.ref (sa 0), .ref (ja 0), .ref (ta 0), .ref h, .ref q]))] : va_W), txW cy ta q_z0] : List va_W).flatten H := hP
  have hD : va_D A ([([(x, .inr (4, [.ref (sa 0), .ref (ja 0), .ref (ta 0), .ref h, .ref q]))] : va_W), txW cy ta q_z0] : List va_W).flatten := hD
  refine lv_bipush (v := (-10)) hx hb dL_refusesAny_507 (by decide) ?_
  refine lv_icmp_ne (tgt := 516) hx hb dL_refusesAny_509 (by decide) (fun c113 => absurd rfl c113) (fun c113 => ?_)
  refine lv_iconst (v := 1) hx hb dL_refusesAny_512 (by decide) ?_
  refine lv_goto (tgt := 517) hx hb dL_refusesAny_513 (by decide) ?_
  exact wl_Rz (bs := [([(x, .inr (4, [.ref (sa 0), .ref (ja 0), .ref (ta 0), .ref h, .ref q]))] : va_W), txW cy ta q_z0]) (r := 1) (True) hx hb hr hlocks hAe hP hD hS (by rfl) (by exact ⟨rfl, rfl⟩) dL_refusesAny_517
set_option maxHeartbeats 16000000 in
set_option maxRecDepth 100000 in
theorem m_L_refusesAnyO (l : Launch) (hl0 : l.stackTraces = false) (D : va_G) (cy : Nat → ClassId) (x : Nat) (sa ja ta : Nat → Nat) (h q : Nat) (y : Nat) (sz : Nat) (hy : y % 2 = 1) (hy2 : y < 2 ^ 31) : Met l yL_refusesAny wsL_refusesAny ({ frames := 8, cells := 24, slots := 144, locals := 137 } : Room) (wl_ic D cy (wl_T9 (va_A ([([(x, .inr (4, [.ref (sa 0), .ref (ja 0), .ref (ta 0), .ref h, .ref q]))] : va_W), txW cy ta q_z0] : List va_W).flatten sz)) [([(x, .inr (4, [.ref (sa 0), .ref (ja 0), .ref (ta 0), .ref h, .ref q]))] : va_W), txW cy ta q_z0] sz [.ref x, .int (nI y)]) (va_Qi (fun (r : Int32) (bs : List va_W) => r = (if True then 1 else 0) ∧ bs = [([(x, .inr (4, [.ref (sa 0), .ref (ja 0), .ref (ta 0), .ref h, .ref q]))] : va_W), txW cy ta q_z0]) (wl_ib D [([(x, .inr (4, [.ref (sa 0), .ref (ja 0), .ref (ta 0), .ref h, .ref q]))] : va_W), txW cy ta q_z0] sz) (va_A ([([(x, .inr (4, [.ref (sa 0), .ref (ja 0), .ref (ta 0), .ref h, .ref q]))] : va_W), txW cy ta q_z0] : List va_W).flatten sz)) 24 144 (va_A ([([(x, .inr (4, [.ref (sa 0), .ref (ja 0), .ref (ta 0), .ref h, .ref q]))] : va_W), txW cy ta q_z0] : List va_W).flatten sz) := by
  refine wl_ofI (cc := cL_refusesAny) (maxL := 5) (ret := (some .boolean)) (by decide) rfl (Nat.le_of_ble_eq_true rfl) ?_
  intro p e s m below meth c ls A hx hb hr hts hown hlocks hml hnm hsz hAe hP hK hD hX hA hS hl
  rw [hAe] at hX
  have hl : lv_has ls 5 [(0, .ref x), (1, .int (nI y))] := hl
  refine lv_iload_n hx hb dL_refusesAny_0 rfl (lv_at hl 1 rfl) ?_
  refine lv_iconst (v := 2) hx hb dL_refusesAny_1 (by decide) ?_
  refine lv_irem hx hb dL_refusesAny_2 (by decide) ?_
  refine wl_top (y := nI (y % 2)) (pk_rem (a := y) (d := 2) (by omega) (by omega) (by omega)) ?_
  refine wl_if_ne (tgt := 15) hx hb (y % 2) dL_refusesAny_3 (by decide) (by omega) (fun c1 => ?_) (fun c1 => absurd c1 (by omega))
  refine lv_bipush (v := 8) hx hb dL_refusesAny_15 (by decide) ?_
  refine lv_iload_n hx hb dL_refusesAny_17 rfl (lv_at hl 1 rfl) ?_
  refine lv_bipush (v := 99) hx hb dL_refusesAny_18 (by decide) ?_
  refine lv_irem hx hb dL_refusesAny_20 (by decide) ?_
  refine wl_top (y := nI (y % 99)) (pk_rem (a := y) (d := 99) (by omega) (by omega) (by omega)) ?_
  refine lv_iadd hx hb dL_refusesAny_21 ?_
  refine wl_top (y := nI (8 + (y % 99))) (nI_add 8 (y % 99)) ?_
  refine lv_istore_n (lv' := [(2, .int (nI (8 + (y % 99)))), (0, .ref x), (1, .int (nI y))]) hx hb dL_refusesAny_22 rfl hl (by decide) rfl (fun ls hl => ?_)
  refine lv_iload_n hx hb dL_refusesAny_23 rfl (lv_at hl 2 rfl) ?_
  refine lv_iconst (v := 2) hx hb dL_refusesAny_24 (by decide) ?_
  refine lv_irem hx hb dL_refusesAny_25 (by decide) ?_
  refine wl_top (y := nI (y % 2)) (pk_rem (a := y) (d := 2) (by omega) (by omega) (by omega)) ?_
  refine wl_if_ne (tgt := 38) hx hb (y % 2) dL_refusesAny_26 (by decide) (by omega) (fun c2 => ?_) (fun c2 => absurd c2 (by omega))
  refine lv_sipush (v := 4096) hx hb dL_refusesAny_38 (by decide) ?_
  refine lv_iload_n hx hb dL_refusesAny_41 rfl (lv_at hl 2 rfl) ?_
  refine lv_bipush (v := 99) hx hb dL_refusesAny_42 (by decide) ?_
  refine lv_irem hx hb dL_refusesAny_44 (by decide) ?_
  refine wl_top (y := nI (y % 99)) (pk_rem (a := y) (d := 99) (by omega) (by omega) (by omega)) ?_
  refine lv_iadd hx hb dL_refusesAny_45 ?_
  refine wl_top (y := nI (4096 + (y % 99))) (nI_add 4096 (y % 99)) ?_
  refine lv_istore_n (lv' := [(3, .int (nI (4096 + (y % 99)))), (2, .int (nI (8 + (y % 99)))), (0, .ref x), (1, .int (nI y))]) hx hb dL_refusesAny_46 rfl hl (by decide) rfl (fun ls hl => ?_)
  refine lv_aload_n hx hb dL_refusesAny_47 rfl (lv_at hl 2 rfl) ?_
  refine lv_iconst (v := 0) hx hb dL_refusesAny_48 (by decide) ?_
  refine lv_iload_n hx hb dL_refusesAny_49 rfl (lv_at hl 1 rfl) ?_
  refine lv_bipush (v := 9) hx hb dL_refusesAny_50 (by decide) ?_
  refine wl_iSW (As := [.ref x, .int 0, .int (nI (8 + (y % 99))), .int 9]) (rest := []) (bsC := [([(x, .inr (4, [.ref (sa 0), .ref (ja 0), .ref (ta 0), .ref h, .ref q]))] : va_W)]) (bsR := [txW cy ta q_z0]) ⟨hx, hb, hml, hown, hts⟩ (b_c_mode1 l hl0 D cy x sa ja ta h q (nI (8 + (y % 99))) 9 s.heap.size (p_big 8 rfl (by omega) (by omega))) (vx_cwSW 4 hts gL_refusesAny_L_call rfl rfl rfl (by decide +kernel) ⟨Nat.le_of_ble_eq_true rfl, Nat.le_of_ble_eq_true rfl⟩) wl_T9_b (fun U hU hW => wl_T9_w hU hW hS (wl_freeB (bsC := [([(x, .inr (4, [.ref (sa 0), .ref (ja 0), .ref (ta 0), .ref h, .ref q]))] : va_W)]) (bsR := [txW cy ta q_z0]) hD hS hA) hX) hK hP hD hS hA rfl hl.1 rfl (Nat.le_of_ble_eq_true rfl) dL_refusesAny_52 ⟨Nat.le_of_ble_eq_true rfl, Nat.le_of_ble_eq_true rfl⟩ (fun r3 bs4 H locs e5 _ _ hP hD hS => ?_)
  obtain ⟨er3, e5⟩ : r3 = (-10) ∧ bs4 = [([(x, .inr (4, [.ref (sa 0), .ref (ja 0), .ref (ta 0), .ref h, .ref q]))] : va_W)] := e5
  subst e5
  subst er3
  refine W.widen (k := 1) (n := 6) (Nat.le_refl _) (Nat.le_refl _) ?_
  have hP : va_P D vwCl ([([(x, .inr (4, [.ref (sa 0), .ref (ja 0), .ref (ta 0), .ref h, .ref q]))] : va_W), txW cy ta q_z0] : List va_W).flatten H := hP
  have hD : va_D A ([([(x, .inr (4, [.ref (sa 0), .ref (ja 0), .ref (ta 0), .ref h, .ref q]))] : va_W), txW cy ta q_z0] : List va_W).flatten := hD
  refine lv_bipush (v := (-10)) hx hb dL_refusesAny_55 (by decide) ?_
  refine lv_icmp_ne (tgt := 333) hx hb dL_refusesAny_57 (by decide) (fun c6 => absurd rfl c6) (fun c6 => ?_)
  refine lv_aload_n hx hb dL_refusesAny_60 rfl (lv_at hl 2 rfl) ?_
  refine lv_iconst (v := 0) hx hb dL_refusesAny_61 (by decide) ?_
  refine lv_iconst (v := 0) hx hb dL_refusesAny_62 (by decide) ?_
  refine lv_iload_n hx hb dL_refusesAny_63 rfl (lv_at hl 3 rfl) ?_
  refine lv_iconst (v := 2) hx hb dL_refusesAny_64 (by decide) ?_
  refine lv_irem hx hb dL_refusesAny_65 (by decide) ?_
  refine wl_top (y := nI (y % 2)) (pk_rem (a := y) (d := 2) (by omega) (by omega) (by omega)) ?_
  refine wl_if_ne (tgt := 73) hx hb (y % 2) dL_refusesAny_66 (by decide) (by omega) (fun c7 => ?_) (fun c7 => absurd c7 (by omega))
  refine lv_iconst (v := 4) hx hb dL_refusesAny_73 (by decide) ?_
  refine wl_iSW (As := [.ref x, .int 0, .int 0, .int 4]) (rest := []) (bsC := [([(x, .inr (4, [.ref (sa 0), .ref (ja 0), .ref (ta 0), .ref h, .ref q]))] : va_W)]) (bsR := [txW cy ta q_z0]) ⟨hx, hb, hml, hown, hts⟩ (b_c_mode2 l hl0 D cy x sa ja ta h q 0 4 H.size (by decide) (by decide)) (vx_cwSW 4 hts gL_refusesAny_L_call rfl rfl rfl (by decide +kernel) ⟨Nat.le_of_ble_eq_true rfl, Nat.le_of_ble_eq_true rfl⟩) wl_T9_b (fun U hU hW => wl_T9_w hU hW hS (wl_freeB (bsC := [([(x, .inr (4, [.ref (sa 0), .ref (ja 0), .ref (ta 0), .ref h, .ref q]))] : va_W)]) (bsR := [txW cy ta q_z0]) hD hS hA) hX) hK hP hD hS hA rfl hl.1 rfl (Nat.le_of_ble_eq_true rfl) dL_refusesAny_74 ⟨Nat.le_of_ble_eq_true rfl, Nat.le_of_ble_eq_true rfl⟩ (fun r8 bs9 H locs e10 _ _ hP hD hS => ?_)
  obtain ⟨er8, e10⟩ : r8 = (-11) ∧ bs9 = [([(x, .inr (4, [.ref (sa 0), .ref (ja 0), .ref (ta 0), .ref h, .ref q]))] : va_W)] := e10
  subst e10
  subst er8
  refine W.widen (k := 2) (n := 12) (Nat.le_refl _) (Nat.le_refl _) ?_
  have hP : va_P D vwCl ([([(x, .inr (4, [.ref (sa 0), .ref (ja 0), .ref (ta 0), .ref h, .ref q]))] : va_W), txW cy ta q_z0] : List va_W).flatten H := hP
  have hD : va_D A ([([(x, .inr (4, [.ref (sa 0), .ref (ja 0), .ref (ta 0), .ref h, .ref q]))] : va_W), txW cy ta q_z0] : List va_W).flatten := hD
  refine lv_bipush (v := (-11)) hx hb dL_refusesAny_77 (by decide) ?_
  refine lv_icmp_ne (tgt := 333) hx hb dL_refusesAny_79 (by decide) (fun c11 => absurd rfl c11) (fun c11 => ?_)
  refine lv_aload_n hx hb dL_refusesAny_82 rfl (lv_at hl 2 rfl) ?_
  refine lv_iconst (v := 1) hx hb dL_refusesAny_83 (by decide) ?_
  refine lv_iload_n hx hb dL_refusesAny_84 rfl (lv_at hl 1 rfl) ?_
  refine lv_bipush (v := 9) hx hb dL_refusesAny_85 (by decide) ?_
  refine wl_iSW (As := [.ref x, .int 1, .int (nI (8 + (y % 99))), .int 9]) (rest := []) (bsC := [([(x, .inr (4, [.ref (sa 0), .ref (ja 0), .ref (ta 0), .ref h, .ref q]))] : va_W)]) (bsR := [txW cy ta q_z0]) ⟨hx, hb, hml, hown, hts⟩ (b_c_loss1 l hl0 D cy x sa ja ta h q (nI (8 + (y % 99))) 9 H.size (p_big 8 rfl (by omega) (by omega))) (vx_cwSW 4 hts gL_refusesAny_L_call rfl rfl rfl (by decide +kernel) ⟨Nat.le_of_ble_eq_true rfl, Nat.le_of_ble_eq_true rfl⟩) wl_T9_b (fun U hU hW => wl_T9_w hU hW hS (wl_freeB (bsC := [([(x, .inr (4, [.ref (sa 0), .ref (ja 0), .ref (ta 0), .ref h, .ref q]))] : va_W)]) (bsR := [txW cy ta q_z0]) hD hS hA) hX) hK hP hD hS hA rfl hl.1 rfl (Nat.le_of_ble_eq_true rfl) dL_refusesAny_87 ⟨Nat.le_of_ble_eq_true rfl, Nat.le_of_ble_eq_true rfl⟩ (fun r12 bs13 H locs e14 _ _ hP hD hS => ?_)
  obtain ⟨er12, e14⟩ : r12 = (-10) ∧ bs13 = [([(x, .inr (4, [.ref (sa 0), .ref (ja 0), .ref (ta 0), .ref h, .ref q]))] : va_W)] := e14
  subst e14
  subst er12
  refine W.widen (k := 3) (n := 18) (Nat.le_refl _) (Nat.le_refl _) ?_
  have hP : va_P D vwCl ([([(x, .inr (4, [.ref (sa 0), .ref (ja 0), .ref (ta 0), .ref h, .ref q]))] : va_W), txW cy ta q_z0] : List va_W).flatten H := hP
  have hD : va_D A ([([(x, .inr (4, [.ref (sa 0), .ref (ja 0), .ref (ta 0), .ref h, .ref q]))] : va_W), txW cy ta q_z0] : List va_W).flatten := hD
  refine lv_bipush (v := (-10)) hx hb dL_refusesAny_90 (by decide) ?_
  refine lv_icmp_ne (tgt := 333) hx hb dL_refusesAny_92 (by decide) (fun c15 => absurd rfl c15) (fun c15 => ?_)
  refine lv_aload_n hx hb dL_refusesAny_95 rfl (lv_at hl 2 rfl) ?_
  refine lv_iconst (v := 1) hx hb dL_refusesAny_96 (by decide) ?_
  refine lv_iconst (v := 0) hx hb dL_refusesAny_97 (by decide) ?_
  refine lv_iload_n hx hb dL_refusesAny_98 rfl (lv_at hl 3 rfl) ?_
  refine lv_iconst (v := 2) hx hb dL_refusesAny_99 (by decide) ?_
  refine lv_irem hx hb dL_refusesAny_100 (by decide) ?_
  refine wl_top (y := nI (y % 2)) (pk_rem (a := y) (d := 2) (by omega) (by omega) (by omega)) ?_
  refine wl_if_ne (tgt := 108) hx hb (y % 2) dL_refusesAny_101 (by decide) (by omega) (fun c16 => ?_) (fun c16 => absurd c16 (by omega))
  refine lv_bipush (v := 7) hx hb dL_refusesAny_108 (by decide) ?_
  refine wl_iSW (As := [.ref x, .int 1, .int 0, .int 7]) (rest := []) (bsC := [([(x, .inr (4, [.ref (sa 0), .ref (ja 0), .ref (ta 0), .ref h, .ref q]))] : va_W)]) (bsR := [txW cy ta q_z0]) ⟨hx, hb, hml, hown, hts⟩ (b_c_loss2 l hl0 D cy x sa ja ta h q 0 7 H.size (by decide) (by decide)) (vx_cwSW 4 hts gL_refusesAny_L_call rfl rfl rfl (by decide +kernel) ⟨Nat.le_of_ble_eq_true rfl, Nat.le_of_ble_eq_true rfl⟩) wl_T9_b (fun U hU hW => wl_T9_w hU hW hS (wl_freeB (bsC := [([(x, .inr (4, [.ref (sa 0), .ref (ja 0), .ref (ta 0), .ref h, .ref q]))] : va_W)]) (bsR := [txW cy ta q_z0]) hD hS hA) hX) hK hP hD hS hA rfl hl.1 rfl (Nat.le_of_ble_eq_true rfl) dL_refusesAny_110 ⟨Nat.le_of_ble_eq_true rfl, Nat.le_of_ble_eq_true rfl⟩ (fun r17 bs18 H locs e19 _ _ hP hD hS => ?_)
  obtain ⟨er17, e19⟩ : r17 = (-11) ∧ bs18 = [([(x, .inr (4, [.ref (sa 0), .ref (ja 0), .ref (ta 0), .ref h, .ref q]))] : va_W)] := e19
  subst e19
  subst er17
  refine W.widen (k := 4) (n := 24) (Nat.le_refl _) (Nat.le_refl _) ?_
  have hP : va_P D vwCl ([([(x, .inr (4, [.ref (sa 0), .ref (ja 0), .ref (ta 0), .ref h, .ref q]))] : va_W), txW cy ta q_z0] : List va_W).flatten H := hP
  have hD : va_D A ([([(x, .inr (4, [.ref (sa 0), .ref (ja 0), .ref (ta 0), .ref h, .ref q]))] : va_W), txW cy ta q_z0] : List va_W).flatten := hD
  refine lv_bipush (v := (-11)) hx hb dL_refusesAny_113 (by decide) ?_
  refine lv_icmp_ne (tgt := 333) hx hb dL_refusesAny_115 (by decide) (fun c20 => absurd rfl c20) (fun c20 => ?_)
  refine lv_aload_n hx hb dL_refusesAny_118 rfl (lv_at hl 2 rfl) ?_
  refine lv_iconst (v := 2) hx hb dL_refusesAny_119 (by decide) ?_
  refine lv_iload_n hx hb dL_refusesAny_120 rfl (lv_at hl 3 rfl) ?_
  refine lv_iconst (v := 2) hx hb dL_refusesAny_121 (by decide) ?_
  refine lv_irem hx hb dL_refusesAny_122 (by decide) ?_
  refine wl_top (y := nI (y % 2)) (pk_rem (a := y) (d := 2) (by omega) (by omega) (by omega)) ?_
  refine wl_if_ne (tgt := 130) hx hb (y % 2) dL_refusesAny_123 (by decide) (by omega) (fun c21 => ?_) (fun c21 => absurd c21 (by omega))
  refine lv_iconst (v := 3) hx hb dL_refusesAny_130 (by decide) ?_
  refine lv_sipush (v := 999) hx hb dL_refusesAny_131 (by decide) ?_
  refine wl_iSW (As := [.ref x, .int 2, .int 3, .int 999]) (rest := []) (bsC := [([(x, .inr (4, [.ref (sa 0), .ref (ja 0), .ref (ta 0), .ref h, .ref q]))] : va_W)]) (bsR := [txW cy ta q_z0]) ⟨hx, hb, hml, hown, hts⟩ (b_c_set1 l hl0 D cy x sa ja ta h q 3 999 H.size (by decide)) (vx_cwSW 4 hts gL_refusesAny_L_call rfl rfl rfl (by decide +kernel) ⟨Nat.le_of_ble_eq_true rfl, Nat.le_of_ble_eq_true rfl⟩) wl_T9_b (fun U hU hW => wl_T9_w hU hW hS (wl_freeB (bsC := [([(x, .inr (4, [.ref (sa 0), .ref (ja 0), .ref (ta 0), .ref h, .ref q]))] : va_W)]) (bsR := [txW cy ta q_z0]) hD hS hA) hX) hK hP hD hS hA rfl hl.1 rfl (Nat.le_of_ble_eq_true rfl) dL_refusesAny_134 ⟨Nat.le_of_ble_eq_true rfl, Nat.le_of_ble_eq_true rfl⟩ (fun r22 bs23 H locs e24 _ _ hP hD hS => ?_)
  obtain ⟨er22, e24⟩ : r22 = (-10) ∧ bs23 = [([(x, .inr (4, [.ref (sa 0), .ref (ja 0), .ref (ta 0), .ref h, .ref q]))] : va_W)] := e24
  subst e24
  subst er22
  refine W.widen (k := 5) (n := 30) (Nat.le_refl _) (Nat.le_refl _) ?_
  have hP : va_P D vwCl ([([(x, .inr (4, [.ref (sa 0), .ref (ja 0), .ref (ta 0), .ref h, .ref q]))] : va_W), txW cy ta q_z0] : List va_W).flatten H := hP
  have hD : va_D A ([([(x, .inr (4, [.ref (sa 0), .ref (ja 0), .ref (ta 0), .ref h, .ref q]))] : va_W), txW cy ta q_z0] : List va_W).flatten := hD
  refine lv_bipush (v := (-10)) hx hb dL_refusesAny_137 (by decide) ?_
  refine lv_icmp_ne (tgt := 333) hx hb dL_refusesAny_139 (by decide) (fun c25 => absurd rfl c25) (fun c25 => ?_)
  refine lv_aload_n hx hb dL_refusesAny_142 rfl (lv_at hl 2 rfl) ?_
  refine lv_iconst (v := 2) hx hb dL_refusesAny_143 (by decide) ?_
  refine lv_iconst (v := 0) hx hb dL_refusesAny_144 (by decide) ?_
  refine lv_iload_n hx hb dL_refusesAny_145 rfl (lv_at hl 3 rfl) ?_
  refine lv_iconst (v := 2) hx hb dL_refusesAny_146 (by decide) ?_
  refine lv_irem hx hb dL_refusesAny_147 (by decide) ?_
  refine wl_top (y := nI (y % 2)) (pk_rem (a := y) (d := 2) (by omega) (by omega) (by omega)) ?_
  refine wl_if_ne (tgt := 155) hx hb (y % 2) dL_refusesAny_148 (by decide) (by omega) (fun c26 => ?_) (fun c26 => absurd c26 (by omega))
  refine lv_bipush (v := 13) hx hb dL_refusesAny_155 (by decide) ?_
  refine wl_iSW (As := [.ref x, .int 2, .int 0, .int 13]) (rest := []) (bsC := [([(x, .inr (4, [.ref (sa 0), .ref (ja 0), .ref (ta 0), .ref h, .ref q]))] : va_W)]) (bsR := [txW cy ta q_z0]) ⟨hx, hb, hml, hown, hts⟩ (b_c_set2 l hl0 D cy x sa ja ta h q 0 13 H.size (by decide) (by decide)) (vx_cwSW 4 hts gL_refusesAny_L_call rfl rfl rfl (by decide +kernel) ⟨Nat.le_of_ble_eq_true rfl, Nat.le_of_ble_eq_true rfl⟩) wl_T9_b (fun U hU hW => wl_T9_w hU hW hS (wl_freeB (bsC := [([(x, .inr (4, [.ref (sa 0), .ref (ja 0), .ref (ta 0), .ref h, .ref q]))] : va_W)]) (bsR := [txW cy ta q_z0]) hD hS hA) hX) hK hP hD hS hA rfl hl.1 rfl (Nat.le_of_ble_eq_true rfl) dL_refusesAny_157 ⟨Nat.le_of_ble_eq_true rfl, Nat.le_of_ble_eq_true rfl⟩ (fun r27 bs28 H locs e29 _ _ hP hD hS => ?_)
  obtain ⟨er27, e29⟩ : r27 = (-11) ∧ bs28 = [([(x, .inr (4, [.ref (sa 0), .ref (ja 0), .ref (ta 0), .ref h, .ref q]))] : va_W)] := e29
  subst e29
  subst er27
  refine W.widen (k := 6) (n := 36) (Nat.le_refl _) (Nat.le_refl _) ?_
  have hP : va_P D vwCl ([([(x, .inr (4, [.ref (sa 0), .ref (ja 0), .ref (ta 0), .ref h, .ref q]))] : va_W), txW cy ta q_z0] : List va_W).flatten H := hP
  have hD : va_D A ([([(x, .inr (4, [.ref (sa 0), .ref (ja 0), .ref (ta 0), .ref h, .ref q]))] : va_W), txW cy ta q_z0] : List va_W).flatten := hD
  refine lv_bipush (v := (-11)) hx hb dL_refusesAny_160 (by decide) ?_
  refine lv_icmp_ne (tgt := 333) hx hb dL_refusesAny_162 (by decide) (fun c30 => absurd rfl c30) (fun c30 => ?_)
  refine lv_aload_n hx hb dL_refusesAny_165 rfl (lv_at hl 2 rfl) ?_
  refine lv_iconst (v := 2) hx hb dL_refusesAny_166 (by decide) ?_
  refine lv_iconst (v := 1) hx hb dL_refusesAny_167 (by decide) ?_
  refine lv_iload_n hx hb dL_refusesAny_168 rfl (lv_at hl 3 rfl) ?_
  refine lv_iconst (v := 2) hx hb dL_refusesAny_169 (by decide) ?_
  refine lv_irem hx hb dL_refusesAny_170 (by decide) ?_
  refine wl_top (y := nI (y % 2)) (pk_rem (a := y) (d := 2) (by omega) (by omega) (by omega)) ?_
  refine wl_if_ne (tgt := 178) hx hb (y % 2) dL_refusesAny_171 (by decide) (by omega) (fun c31 => ?_) (fun c31 => absurd c31 (by omega))
  refine lv_iconst (v := 2) hx hb dL_refusesAny_178 (by decide) ?_
  refine wl_iSW (As := [.ref x, .int 2, .int 1, .int 2]) (rest := []) (bsC := [([(x, .inr (4, [.ref (sa 0), .ref (ja 0), .ref (ta 0), .ref h, .ref q]))] : va_W)]) (bsR := [txW cy ta q_z0]) ⟨hx, hb, hml, hown, hts⟩ (b_c_set2 l hl0 D cy x sa ja ta h q 1 2 H.size (by decide) (by decide)) (vx_cwSW 4 hts gL_refusesAny_L_call rfl rfl rfl (by decide +kernel) ⟨Nat.le_of_ble_eq_true rfl, Nat.le_of_ble_eq_true rfl⟩) wl_T9_b (fun U hU hW => wl_T9_w hU hW hS (wl_freeB (bsC := [([(x, .inr (4, [.ref (sa 0), .ref (ja 0), .ref (ta 0), .ref h, .ref q]))] : va_W)]) (bsR := [txW cy ta q_z0]) hD hS hA) hX) hK hP hD hS hA rfl hl.1 rfl (Nat.le_of_ble_eq_true rfl) dL_refusesAny_179 ⟨Nat.le_of_ble_eq_true rfl, Nat.le_of_ble_eq_true rfl⟩ (fun r32 bs33 H locs e34 _ _ hP hD hS => ?_)
  obtain ⟨er32, e34⟩ : r32 = (-11) ∧ bs33 = [([(x, .inr (4, [.ref (sa 0), .ref (ja 0), .ref (ta 0), .ref h, .ref q]))] : va_W)] := e34
  subst e34
  subst er32
  refine W.widen (k := 7) (n := 42) (Nat.le_refl _) (Nat.le_refl _) ?_
  have hP : va_P D vwCl ([([(x, .inr (4, [.ref (sa 0), .ref (ja 0), .ref (ta 0), .ref h, .ref q]))] : va_W), txW cy ta q_z0] : List va_W).flatten H := hP
  have hD : va_D A ([([(x, .inr (4, [.ref (sa 0), .ref (ja 0), .ref (ta 0), .ref h, .ref q]))] : va_W), txW cy ta q_z0] : List va_W).flatten := hD
  refine lv_bipush (v := (-11)) hx hb dL_refusesAny_182 (by decide) ?_
  refine lv_icmp_ne (tgt := 333) hx hb dL_refusesAny_184 (by decide) (fun c35 => absurd rfl c35) (fun c35 => ?_)
  refine lv_aload_n hx hb dL_refusesAny_187 rfl (lv_at hl 2 rfl) ?_
  refine lv_iconst (v := 2) hx hb dL_refusesAny_188 (by decide) ?_
  refine lv_iconst (v := 2) hx hb dL_refusesAny_189 (by decide) ?_
  refine lv_iload_n hx hb dL_refusesAny_190 rfl (lv_at hl 3 rfl) ?_
  refine lv_iconst (v := 2) hx hb dL_refusesAny_191 (by decide) ?_
  refine lv_irem hx hb dL_refusesAny_192 (by decide) ?_
  refine wl_top (y := nI (y % 2)) (pk_rem (a := y) (d := 2) (by omega) (by omega) (by omega)) ?_
  refine wl_if_ne (tgt := 200) hx hb (y % 2) dL_refusesAny_193 (by decide) (by omega) (fun c36 => ?_) (fun c36 => absurd c36 (by omega))
  refine lv_sipush (v := 361) hx hb dL_refusesAny_200 (by decide) ?_
  refine wl_iSW (As := [.ref x, .int 2, .int 2, .int 361]) (rest := []) (bsC := [([(x, .inr (4, [.ref (sa 0), .ref (ja 0), .ref (ta 0), .ref h, .ref q]))] : va_W)]) (bsR := [txW cy ta q_z0]) ⟨hx, hb, hml, hown, hts⟩ (b_c_set2 l hl0 D cy x sa ja ta h q 2 361 H.size (by decide) (by decide)) (vx_cwSW 4 hts gL_refusesAny_L_call rfl rfl rfl (by decide +kernel) ⟨Nat.le_of_ble_eq_true rfl, Nat.le_of_ble_eq_true rfl⟩) wl_T9_b (fun U hU hW => wl_T9_w hU hW hS (wl_freeB (bsC := [([(x, .inr (4, [.ref (sa 0), .ref (ja 0), .ref (ta 0), .ref h, .ref q]))] : va_W)]) (bsR := [txW cy ta q_z0]) hD hS hA) hX) hK hP hD hS hA rfl hl.1 rfl (Nat.le_of_ble_eq_true rfl) dL_refusesAny_203 ⟨Nat.le_of_ble_eq_true rfl, Nat.le_of_ble_eq_true rfl⟩ (fun r37 bs38 H locs e39 _ _ hP hD hS => ?_)
  obtain ⟨er37, e39⟩ : r37 = (-11) ∧ bs38 = [([(x, .inr (4, [.ref (sa 0), .ref (ja 0), .ref (ta 0), .ref h, .ref q]))] : va_W)] := e39
  subst e39
  subst er37
  refine W.widen (k := 8) (n := 48) (Nat.le_refl _) (Nat.le_refl _) ?_
  have hP : va_P D vwCl ([([(x, .inr (4, [.ref (sa 0), .ref (ja 0), .ref (ta 0), .ref h, .ref q]))] : va_W), txW cy ta q_z0] : List va_W).flatten H := hP
  have hD : va_D A ([([(x, .inr (4, [.ref (sa 0), .ref (ja 0), .ref (ta 0), .ref h, .ref q]))] : va_W), txW cy ta q_z0] : List va_W).flatten := hD
  refine lv_bipush (v := (-11)) hx hb dL_refusesAny_206 (by decide) ?_
  refine lv_icmp_ne (tgt := 333) hx hb dL_refusesAny_208 (by decide) (fun c40 => absurd rfl c40) (fun c40 => ?_)
  refine lv_aload_n hx hb dL_refusesAny_211 rfl (lv_at hl 2 rfl) ?_
  refine lv_iconst (v := 3) hx hb dL_refusesAny_212 (by decide) ?_
  refine lv_iload_n hx hb dL_refusesAny_213 rfl (lv_at hl 3 rfl) ?_
  refine lv_iconst (v := 2) hx hb dL_refusesAny_214 (by decide) ?_
  refine lv_irem hx hb dL_refusesAny_215 (by decide) ?_
  refine wl_top (y := nI (y % 2)) (pk_rem (a := y) (d := 2) (by omega) (by omega) (by omega)) ?_
  refine wl_if_ne (tgt := 223) hx hb (y % 2) dL_refusesAny_216 (by decide) (by omega) (fun c41 => ?_) (fun c41 => absurd c41 (by omega))
  refine lv_bipush (v := 21) hx hb dL_refusesAny_223 (by decide) ?_
  refine lv_iconst (v := 0) hx hb dL_refusesAny_225 (by decide) ?_
  refine wl_iSW (As := [.ref x, .int 3, .int 21, .int 0]) (rest := []) (bsC := [([(x, .inr (4, [.ref (sa 0), .ref (ja 0), .ref (ta 0), .ref h, .ref q]))] : va_W)]) (bsR := [txW cy ta q_z0]) ⟨hx, hb, hml, hown, hts⟩ (b_c_pulse1 l hl0 D cy x sa ja ta h q 21 0 H.size (by decide)) (vx_cwSW 4 hts gL_refusesAny_L_call rfl rfl rfl (by decide +kernel) ⟨Nat.le_of_ble_eq_true rfl, Nat.le_of_ble_eq_true rfl⟩) wl_T9_b (fun U hU hW => wl_T9_w hU hW hS (wl_freeB (bsC := [([(x, .inr (4, [.ref (sa 0), .ref (ja 0), .ref (ta 0), .ref h, .ref q]))] : va_W)]) (bsR := [txW cy ta q_z0]) hD hS hA) hX) hK hP hD hS hA rfl hl.1 rfl (Nat.le_of_ble_eq_true rfl) dL_refusesAny_226 ⟨Nat.le_of_ble_eq_true rfl, Nat.le_of_ble_eq_true rfl⟩ (fun r42 bs43 H locs e44 _ _ hP hD hS => ?_)
  obtain ⟨er42, e44⟩ : r42 = (-11) ∧ bs43 = [([(x, .inr (4, [.ref (sa 0), .ref (ja 0), .ref (ta 0), .ref h, .ref q]))] : va_W)] := e44
  subst e44
  subst er42
  refine W.widen (k := 9) (n := 54) (Nat.le_refl _) (Nat.le_refl _) ?_
  have hP : va_P D vwCl ([([(x, .inr (4, [.ref (sa 0), .ref (ja 0), .ref (ta 0), .ref h, .ref q]))] : va_W), txW cy ta q_z0] : List va_W).flatten H := hP
  have hD : va_D A ([([(x, .inr (4, [.ref (sa 0), .ref (ja 0), .ref (ta 0), .ref h, .ref q]))] : va_W), txW cy ta q_z0] : List va_W).flatten := hD
  refine lv_bipush (v := (-11)) hx hb dL_refusesAny_229 (by decide) ?_
  refine lv_icmp_ne (tgt := 333) hx hb dL_refusesAny_231 (by decide) (fun c45 => absurd rfl c45) (fun c45 => ?_)
  refine lv_aload_n hx hb dL_refusesAny_234 rfl (lv_at hl 2 rfl) ?_
  refine lv_iconst (v := 4) hx hb dL_refusesAny_235 (by decide) ?_
  refine lv_iload_n hx hb dL_refusesAny_236 rfl (lv_at hl 0 rfl) ?_
  refine lv_iconst (v := 0) hx hb dL_refusesAny_237 (by decide) ?_
  refine wl_iSW (As := [.ref x, .int 4, .int (nI (4096 + (y % 99))), .int 0]) (rest := []) (bsC := [([(x, .inr (4, [.ref (sa 0), .ref (ja 0), .ref (ta 0), .ref h, .ref q]))] : va_W)]) (bsR := [txW cy ta q_z0]) ⟨hx, hb, hml, hown, hts⟩ (b_c_send1 l hl0 D cy x sa ja ta h q (nI (4096 + (y % 99))) 0 H.size (p_bigW 4095 rfl (by omega) (by omega))) (vx_cwSW 4 hts gL_refusesAny_L_call rfl rfl rfl (by decide +kernel) ⟨Nat.le_of_ble_eq_true rfl, Nat.le_of_ble_eq_true rfl⟩) wl_T9_b (fun U hU hW => wl_T9_w hU hW hS (wl_freeB (bsC := [([(x, .inr (4, [.ref (sa 0), .ref (ja 0), .ref (ta 0), .ref h, .ref q]))] : va_W)]) (bsR := [txW cy ta q_z0]) hD hS hA) hX) hK hP hD hS hA rfl hl.1 rfl (Nat.le_of_ble_eq_true rfl) dL_refusesAny_238 ⟨Nat.le_of_ble_eq_true rfl, Nat.le_of_ble_eq_true rfl⟩ (fun r46 bs47 H locs e48 _ _ hP hD hS => ?_)
  obtain ⟨er46, e48⟩ : r46 = (-11) ∧ bs47 = [([(x, .inr (4, [.ref (sa 0), .ref (ja 0), .ref (ta 0), .ref h, .ref q]))] : va_W)] := e48
  subst e48
  subst er46
  refine W.widen (k := 10) (n := 60) (Nat.le_refl _) (Nat.le_refl _) ?_
  have hP : va_P D vwCl ([([(x, .inr (4, [.ref (sa 0), .ref (ja 0), .ref (ta 0), .ref h, .ref q]))] : va_W), txW cy ta q_z0] : List va_W).flatten H := hP
  have hD : va_D A ([([(x, .inr (4, [.ref (sa 0), .ref (ja 0), .ref (ta 0), .ref h, .ref q]))] : va_W), txW cy ta q_z0] : List va_W).flatten := hD
  refine lv_bipush (v := (-11)) hx hb dL_refusesAny_241 (by decide) ?_
  refine lv_icmp_ne (tgt := 333) hx hb dL_refusesAny_243 (by decide) (fun c49 => absurd rfl c49) (fun c49 => ?_)
  refine lv_aload_n hx hb dL_refusesAny_246 rfl (lv_at hl 2 rfl) ?_
  refine lv_iconst (v := 5) hx hb dL_refusesAny_247 (by decide) ?_
  refine lv_iload_n hx hb dL_refusesAny_248 rfl (lv_at hl 3 rfl) ?_
  refine lv_iconst (v := 2) hx hb dL_refusesAny_249 (by decide) ?_
  refine lv_irem hx hb dL_refusesAny_250 (by decide) ?_
  refine wl_top (y := nI (y % 2)) (pk_rem (a := y) (d := 2) (by omega) (by omega) (by omega)) ?_
  refine wl_if_ne (tgt := 259) hx hb (y % 2) dL_refusesAny_251 (by decide) (by omega) (fun c50 => ?_) (fun c50 => absurd c50 (by omega))
  refine lv_bipush (v := 127) hx hb dL_refusesAny_259 (by decide) ?_
  refine lv_iconst (v := 0) hx hb dL_refusesAny_261 (by decide) ?_
  refine wl_iSW (As := [.ref x, .int 5, .int 127, .int 0]) (rest := []) (bsC := [([(x, .inr (4, [.ref (sa 0), .ref (ja 0), .ref (ta 0), .ref h, .ref q]))] : va_W)]) (bsR := [txW cy ta q_z0]) ⟨hx, hb, hml, hown, hts⟩ (b_c_append1 l hl0 D cy x sa ja ta h q 127 0 H.size (by decide)) (vx_cwSW 4 hts gL_refusesAny_L_call rfl rfl rfl (by decide +kernel) ⟨Nat.le_of_ble_eq_true rfl, Nat.le_of_ble_eq_true rfl⟩) wl_T9_b (fun U hU hW => wl_T9_w hU hW hS (wl_freeB (bsC := [([(x, .inr (4, [.ref (sa 0), .ref (ja 0), .ref (ta 0), .ref h, .ref q]))] : va_W)]) (bsR := [txW cy ta q_z0]) hD hS hA) hX) hK hP hD hS hA rfl hl.1 rfl (Nat.le_of_ble_eq_true rfl) dL_refusesAny_262 ⟨Nat.le_of_ble_eq_true rfl, Nat.le_of_ble_eq_true rfl⟩ (fun r51 bs52 H locs e53 _ _ hP hD hS => ?_)
  obtain ⟨er51, e53⟩ : r51 = (-11) ∧ bs52 = [([(x, .inr (4, [.ref (sa 0), .ref (ja 0), .ref (ta 0), .ref h, .ref q]))] : va_W)] := e53
  subst e53
  subst er51
  refine W.widen (k := 11) (n := 66) (Nat.le_refl _) (Nat.le_refl _) ?_
  have hP : va_P D vwCl ([([(x, .inr (4, [.ref (sa 0), .ref (ja 0), .ref (ta 0), .ref h, .ref q]))] : va_W), txW cy ta q_z0] : List va_W).flatten H := hP
  have hD : va_D A ([([(x, .inr (4, [.ref (sa 0), .ref (ja 0), .ref (ta 0), .ref h, .ref q]))] : va_W), txW cy ta q_z0] : List va_W).flatten := hD
  refine lv_bipush (v := (-11)) hx hb dL_refusesAny_265 (by decide) ?_
  refine lv_icmp_ne (tgt := 333) hx hb dL_refusesAny_267 (by decide) (fun c54 => absurd rfl c54) (fun c54 => ?_)
  refine lv_aload_n hx hb dL_refusesAny_270 rfl (lv_at hl 2 rfl) ?_
  refine lv_bipush (v := 6) hx hb dL_refusesAny_271 (by decide) ?_
  refine lv_iconst (v := 0) hx hb dL_refusesAny_273 (by decide) ?_
  refine lv_iconst (v := 0) hx hb dL_refusesAny_274 (by decide) ?_
  refine wl_iSW (As := [.ref x, .int 6, .int 0, .int 0]) (rest := []) (bsC := [([(x, .inr (4, [.ref (sa 0), .ref (ja 0), .ref (ta 0), .ref h, .ref q]))] : va_W), txW cy ta q_z0]) (bsR := []) ⟨hx, hb, hml, hown, hts⟩ (b_c_load1 l hl0 D cy x sa ja ta h q q_z0 0 0 0 H.size rfl (by decide) (fun y9 hy9 => absurd hy9 (Nat.not_lt_zero y9)) p_wt0) (vx_cwSW 4 hts gL_refusesAny_L_call rfl rfl rfl (by decide +kernel) ⟨Nat.le_of_ble_eq_true rfl, Nat.le_of_ble_eq_true rfl⟩) wl_T9_b (fun U hU hW => wl_T9_w hU hW hS (wl_freeB (bsC := [([(x, .inr (4, [.ref (sa 0), .ref (ja 0), .ref (ta 0), .ref h, .ref q]))] : va_W), txW cy ta q_z0]) (bsR := []) hD hS hA) hX) hK hP hD hS hA rfl hl.1 rfl (Nat.le_of_ble_eq_true rfl) dL_refusesAny_275 ⟨Nat.le_of_ble_eq_true rfl, Nat.le_of_ble_eq_true rfl⟩ (fun r55 bs56 H locs e57 _ _ hP hD hS => ?_)
  obtain ⟨er55, e57⟩ : r55 = (-11) ∧ bs56 = [([(x, .inr (4, [.ref (sa 0), .ref (ja 0), .ref (ta 0), .ref h, .ref q]))] : va_W), txW cy ta q_z0] := e57
  subst e57
  subst er55
  refine W.widen (k := 12) (n := 72) (Nat.le_refl _) (Nat.le_refl _) ?_
  have hP : va_P D vwCl ([([(x, .inr (4, [.ref (sa 0), .ref (ja 0), .ref (ta 0), .ref h, .ref q]))] : va_W), txW cy ta q_z0] : List va_W).flatten H := hP
  have hD : va_D A ([([(x, .inr (4, [.ref (sa 0), .ref (ja 0), .ref (ta 0), .ref h, .ref q]))] : va_W), txW cy ta q_z0] : List va_W).flatten := hD
  refine lv_bipush (v := (-11)) hx hb dL_refusesAny_278 (by decide) ?_
  refine lv_icmp_ne (tgt := 333) hx hb dL_refusesAny_280 (by decide) (fun c58 => absurd rfl c58) (fun c58 => ?_)
  refine lv_aload_n hx hb dL_refusesAny_283 rfl (lv_at hl 2 rfl) ?_
  refine lv_bipush (v := 7) hx hb dL_refusesAny_284 (by decide) ?_
  refine lv_iload_n hx hb dL_refusesAny_286 rfl (lv_at hl 3 rfl) ?_
  refine lv_iconst (v := 2) hx hb dL_refusesAny_287 (by decide) ?_
  refine lv_irem hx hb dL_refusesAny_288 (by decide) ?_
  refine wl_top (y := nI (y % 2)) (pk_rem (a := y) (d := 2) (by omega) (by omega) (by omega)) ?_
  refine wl_if_ne (tgt := 296) hx hb (y % 2) dL_refusesAny_289 (by decide) (by omega) (fun c59 => ?_) (fun c59 => absurd c59 (by omega))
  refine lv_iconst (v := 2) hx hb dL_refusesAny_296 (by decide) ?_
  refine lv_iconst (v := 0) hx hb dL_refusesAny_297 (by decide) ?_
  refine wl_iSW (As := [.ref x, .int 7, .int 2, .int 0]) (rest := []) (bsC := [([(x, .inr (4, [.ref (sa 0), .ref (ja 0), .ref (ta 0), .ref h, .ref q]))] : va_W)]) (bsR := [txW cy ta q_z0]) ⟨hx, hb, hml, hown, hts⟩ (b_c_keep1 l hl0 D cy x sa ja ta h q 2 0 H.size (by decide)) (vx_cwSW 4 hts gL_refusesAny_L_call rfl rfl rfl (by decide +kernel) ⟨Nat.le_of_ble_eq_true rfl, Nat.le_of_ble_eq_true rfl⟩) wl_T9_b (fun U hU hW => wl_T9_w hU hW hS (wl_freeB (bsC := [([(x, .inr (4, [.ref (sa 0), .ref (ja 0), .ref (ta 0), .ref h, .ref q]))] : va_W)]) (bsR := [txW cy ta q_z0]) hD hS hA) hX) hK hP hD hS hA rfl hl.1 rfl (Nat.le_of_ble_eq_true rfl) dL_refusesAny_298 ⟨Nat.le_of_ble_eq_true rfl, Nat.le_of_ble_eq_true rfl⟩ (fun r60 bs61 H locs e62 _ _ hP hD hS => ?_)
  obtain ⟨er60, e62⟩ : r60 = (-11) ∧ bs61 = [([(x, .inr (4, [.ref (sa 0), .ref (ja 0), .ref (ta 0), .ref h, .ref q]))] : va_W)] := e62
  subst e62
  subst er60
  refine W.widen (k := 13) (n := 78) (Nat.le_refl _) (Nat.le_refl _) ?_
  have hP : va_P D vwCl ([([(x, .inr (4, [.ref (sa 0), .ref (ja 0), .ref (ta 0), .ref h, .ref q]))] : va_W), txW cy ta q_z0] : List va_W).flatten H := hP
  have hD : va_D A ([([(x, .inr (4, [.ref (sa 0), .ref (ja 0), .ref (ta 0), .ref h, .ref q]))] : va_W), txW cy ta q_z0] : List va_W).flatten := hD
  refine lv_bipush (v := (-11)) hx hb dL_refusesAny_301 (by decide) ?_
  refine lv_icmp_ne (tgt := 333) hx hb dL_refusesAny_303 (by decide) (fun c63 => absurd rfl c63) (fun c63 => ?_)
  refine lv_aload_n hx hb dL_refusesAny_306 rfl (lv_at hl 2 rfl) ?_
  refine lv_bipush (v := 8) hx hb dL_refusesAny_307 (by decide) ?_
  refine lv_iload_n hx hb dL_refusesAny_309 rfl (lv_at hl 3 rfl) ?_
  refine lv_iconst (v := 2) hx hb dL_refusesAny_310 (by decide) ?_
  refine lv_irem hx hb dL_refusesAny_311 (by decide) ?_
  refine wl_top (y := nI (y % 2)) (pk_rem (a := y) (d := 2) (by omega) (by omega) (by omega)) ?_
  refine wl_if_ne (tgt := 319) hx hb (y % 2) dL_refusesAny_312 (by decide) (by omega) (fun c64 => ?_) (fun c64 => absurd c64 (by omega))
  refine lv_iconst (v := 2) hx hb dL_refusesAny_319 (by decide) ?_
  refine lv_iconst (v := 0) hx hb dL_refusesAny_320 (by decide) ?_
  refine wl_iSW (As := [.ref x, .int 8, .int 2, .int 0]) (rest := []) (bsC := [([(x, .inr (4, [.ref (sa 0), .ref (ja 0), .ref (ta 0), .ref h, .ref q]))] : va_W)]) (bsR := [txW cy ta q_z0]) ⟨hx, hb, hml, hown, hts⟩ (b_c_goBack1 l hl0 D cy x sa ja ta h q 2 0 H.size (by decide)) (vx_cwSW 4 hts gL_refusesAny_L_call rfl rfl rfl (by decide +kernel) ⟨Nat.le_of_ble_eq_true rfl, Nat.le_of_ble_eq_true rfl⟩) wl_T9_b (fun U hU hW => wl_T9_w hU hW hS (wl_freeB (bsC := [([(x, .inr (4, [.ref (sa 0), .ref (ja 0), .ref (ta 0), .ref h, .ref q]))] : va_W)]) (bsR := [txW cy ta q_z0]) hD hS hA) hX) hK hP hD hS hA rfl hl.1 rfl (Nat.le_of_ble_eq_true rfl) dL_refusesAny_321 ⟨Nat.le_of_ble_eq_true rfl, Nat.le_of_ble_eq_true rfl⟩ (fun r65 bs66 H locs e67 _ _ hP hD hS => ?_)
  obtain ⟨er65, e67⟩ : r65 = (-11) ∧ bs66 = [([(x, .inr (4, [.ref (sa 0), .ref (ja 0), .ref (ta 0), .ref h, .ref q]))] : va_W)] := e67
  subst e67
  subst er65
  refine W.widen (k := 14) (n := 84) (Nat.le_refl _) (Nat.le_refl _) ?_
  have hP : va_P D vwCl ([([(x, .inr (4, [.ref (sa 0), .ref (ja 0), .ref (ta 0), .ref h, .ref q]))] : va_W), txW cy ta q_z0] : List va_W).flatten H := hP
  have hD : va_D A ([([(x, .inr (4, [.ref (sa 0), .ref (ja 0), .ref (ta 0), .ref h, .ref q]))] : va_W), txW cy ta q_z0] : List va_W).flatten := hD
  refine lv_bipush (v := (-11)) hx hb dL_refusesAny_324 (by decide) ?_
  refine lv_icmp_ne (tgt := 333) hx hb dL_refusesAny_326 (by decide) (fun c68 => absurd rfl c68) (fun c68 => ?_)
  refine lv_iconst (v := 1) hx hb dL_refusesAny_329 (by decide) ?_
  refine lv_goto (tgt := 334) hx hb dL_refusesAny_330 (by decide) ?_
  refine lv_istore (lv' := [(4, .int 1), (3, .int (nI (4096 + (y % 99)))), (2, .int (nI (8 + (y % 99)))), (0, .ref x), (1, .int (nI y))]) hx hb dL_refusesAny_334 hl (by decide) rfl (fun ls hl => ?_)
  refine lv_iload hx hb dL_refusesAny_336 (lv_at hl 0 rfl) ?_
  refine wl_if_eq (tgt := 516) hx hb 1 dL_refusesAny_338 (by decide) (by omega) (fun c69 => absurd c69 (by decide)) (fun c69 => ?_)
  refine lv_aload_n hx hb dL_refusesAny_341 rfl (lv_at hl 3 rfl) ?_
  refine lv_iconst (v := 0) hx hb dL_refusesAny_342 (by decide) ?_
  refine lv_iload_n hx hb dL_refusesAny_343 rfl (lv_at hl 2 rfl) ?_
  refine lv_bipush (v := 9) hx hb dL_refusesAny_344 (by decide) ?_
  refine wl_iSW (As := [.ref x, .int 0, .int (nI (8 + (y % 99))), .int 9]) (rest := []) (bsC := [([(x, .inr (4, [.ref (sa 0), .ref (ja 0), .ref (ta 0), .ref h, .ref q]))] : va_W)]) (bsR := [txW cy ta q_z0]) ⟨hx, hb, hml, hown, hts⟩ (b_a_lampOf1 l hl0 D cy x sa ja ta h q (nI (8 + (y % 99))) 9 H.size (p_big 8 rfl (by omega) (by omega))) (vx_cwSW 4 hts gL_refusesAny_L_ask rfl rfl rfl (by decide +kernel) ⟨Nat.le_of_ble_eq_true rfl, Nat.le_of_ble_eq_true rfl⟩) wl_T9_b (fun U hU hW => wl_T9_w hU hW hS (wl_freeB (bsC := [([(x, .inr (4, [.ref (sa 0), .ref (ja 0), .ref (ta 0), .ref h, .ref q]))] : va_W)]) (bsR := [txW cy ta q_z0]) hD hS hA) hX) hK hP hD hS hA rfl hl.1 rfl (Nat.le_of_ble_eq_true rfl) dL_refusesAny_346 ⟨Nat.le_of_ble_eq_true rfl, Nat.le_of_ble_eq_true rfl⟩ (fun r70 bs71 H locs e72 _ _ hP hD hS => ?_)
  obtain ⟨er70, e72⟩ : r70 = (-10) ∧ bs71 = [([(x, .inr (4, [.ref (sa 0), .ref (ja 0), .ref (ta 0), .ref h, .ref q]))] : va_W)] := e72
  subst e72
  subst er70
  refine W.widen (k := 15) (n := 90) (Nat.le_refl _) (Nat.le_refl _) ?_
  have hP : va_P D vwCl ([([(x, .inr (4, [.ref (sa 0), .ref (ja 0), .ref (ta 0), .ref h, .ref q]))] : va_W), txW cy ta q_z0] : List va_W).flatten H := hP
  have hD : va_D A ([([(x, .inr (4, [.ref (sa 0), .ref (ja 0), .ref (ta 0), .ref h, .ref q]))] : va_W), txW cy ta q_z0] : List va_W).flatten := hD
  refine lv_bipush (v := (-10)) hx hb dL_refusesAny_349 (by decide) ?_
  refine lv_icmp_ne (tgt := 516) hx hb dL_refusesAny_351 (by decide) (fun c73 => absurd rfl c73) (fun c73 => ?_)
  refine lv_aload_n hx hb dL_refusesAny_354 rfl (lv_at hl 3 rfl) ?_
  refine lv_iconst (v := 0) hx hb dL_refusesAny_355 (by decide) ?_
  refine lv_iconst (v := 0) hx hb dL_refusesAny_356 (by decide) ?_
  refine lv_iload_n hx hb dL_refusesAny_357 rfl (lv_at hl 4 rfl) ?_
  refine lv_iconst (v := 2) hx hb dL_refusesAny_358 (by decide) ?_
  refine lv_irem hx hb dL_refusesAny_359 (by decide) ?_
  refine wl_top (y := nI (y % 2)) (pk_rem (a := y) (d := 2) (by omega) (by omega) (by omega)) ?_
  refine wl_if_ne (tgt := 367) hx hb (y % 2) dL_refusesAny_360 (by decide) (by omega) (fun c74 => ?_) (fun c74 => absurd c74 (by omega))
  refine lv_bipush (v := 8) hx hb dL_refusesAny_367 (by decide) ?_
  refine wl_iSW (As := [.ref x, .int 0, .int 0, .int 8]) (rest := []) (bsC := [([(x, .inr (4, [.ref (sa 0), .ref (ja 0), .ref (ta 0), .ref h, .ref q]))] : va_W)]) (bsR := [txW cy ta q_z0]) ⟨hx, hb, hml, hown, hts⟩ (b_a_lampOf2 l hl0 D cy x sa ja ta h q 0 8 H.size (by decide) (by decide)) (vx_cwSW 4 hts gL_refusesAny_L_ask rfl rfl rfl (by decide +kernel) ⟨Nat.le_of_ble_eq_true rfl, Nat.le_of_ble_eq_true rfl⟩) wl_T9_b (fun U hU hW => wl_T9_w hU hW hS (wl_freeB (bsC := [([(x, .inr (4, [.ref (sa 0), .ref (ja 0), .ref (ta 0), .ref h, .ref q]))] : va_W)]) (bsR := [txW cy ta q_z0]) hD hS hA) hX) hK hP hD hS hA rfl hl.1 rfl (Nat.le_of_ble_eq_true rfl) dL_refusesAny_369 ⟨Nat.le_of_ble_eq_true rfl, Nat.le_of_ble_eq_true rfl⟩ (fun r75 bs76 H locs e77 _ _ hP hD hS => ?_)
  obtain ⟨er75, e77⟩ : r75 = (-11) ∧ bs76 = [([(x, .inr (4, [.ref (sa 0), .ref (ja 0), .ref (ta 0), .ref h, .ref q]))] : va_W)] := e77
  subst e77
  subst er75
  refine W.widen (k := 16) (n := 96) (Nat.le_refl _) (Nat.le_refl _) ?_
  have hP : va_P D vwCl ([([(x, .inr (4, [.ref (sa 0), .ref (ja 0), .ref (ta 0), .ref h, .ref q]))] : va_W), txW cy ta q_z0] : List va_W).flatten H := hP
  have hD : va_D A ([([(x, .inr (4, [.ref (sa 0), .ref (ja 0), .ref (ta 0), .ref h, .ref q]))] : va_W), txW cy ta q_z0] : List va_W).flatten := hD
  refine lv_bipush (v := (-11)) hx hb dL_refusesAny_372 (by decide) ?_
  refine lv_icmp_ne (tgt := 516) hx hb dL_refusesAny_374 (by decide) (fun c78 => absurd rfl c78) (fun c78 => ?_)
  refine lv_aload_n hx hb dL_refusesAny_377 rfl (lv_at hl 3 rfl) ?_
  refine lv_iconst (v := 1) hx hb dL_refusesAny_378 (by decide) ?_
  refine lv_iconst (v := (-1)) hx hb dL_refusesAny_379 (by decide) ?_
  refine lv_iload_n hx hb dL_refusesAny_380 rfl (lv_at hl 4 rfl) ?_
  refine lv_bipush (v := 99) hx hb dL_refusesAny_381 (by decide) ?_
  refine lv_irem hx hb dL_refusesAny_383 (by decide) ?_
  refine wl_top (y := nI (y % 99)) (pk_rem (a := y) (d := 99) (by omega) (by omega) (by omega)) ?_
  refine lv_isub hx hb dL_refusesAny_384 ?_
  refine lv_iconst (v := 0) hx hb dL_refusesAny_385 (by decide) ?_
  refine wl_iSW (As := [.ref x, .int 1, .int ((-1) - (nI (y % 99))), .int 0]) (rest := []) (bsC := [([(x, .inr (4, [.ref (sa 0), .ref (ja 0), .ref (ta 0), .ref h, .ref q]))] : va_W)]) (bsR := [txW cy ta q_z0]) ⟨hx, hb, hml, hown, hts⟩ (b_a_pulseAt1 l hl0 D cy x sa ja ta h q ((-1) - (nI (y % 99))) 0 H.size (p_neg _ (Nat.mod_lt _ (by decide)))) (vx_cwSW 4 hts gL_refusesAny_L_ask rfl rfl rfl (by decide +kernel) ⟨Nat.le_of_ble_eq_true rfl, Nat.le_of_ble_eq_true rfl⟩) wl_T9_b (fun U hU hW => wl_T9_w hU hW hS (wl_freeB (bsC := [([(x, .inr (4, [.ref (sa 0), .ref (ja 0), .ref (ta 0), .ref h, .ref q]))] : va_W)]) (bsR := [txW cy ta q_z0]) hD hS hA) hX) hK hP hD hS hA rfl hl.1 rfl (Nat.le_of_ble_eq_true rfl) dL_refusesAny_386 ⟨Nat.le_of_ble_eq_true rfl, Nat.le_of_ble_eq_true rfl⟩ (fun r79 bs80 H locs e81 _ _ hP hD hS => ?_)
  obtain ⟨er79, e81⟩ : r79 = (-11) ∧ bs80 = [([(x, .inr (4, [.ref (sa 0), .ref (ja 0), .ref (ta 0), .ref h, .ref q]))] : va_W)] := e81
  subst e81
  subst er79
  refine W.widen (k := 17) (n := 102) (Nat.le_refl _) (Nat.le_refl _) ?_
  have hP : va_P D vwCl ([([(x, .inr (4, [.ref (sa 0), .ref (ja 0), .ref (ta 0), .ref h, .ref q]))] : va_W), txW cy ta q_z0] : List va_W).flatten H := hP
  have hD : va_D A ([([(x, .inr (4, [.ref (sa 0), .ref (ja 0), .ref (ta 0), .ref h, .ref q]))] : va_W), txW cy ta q_z0] : List va_W).flatten := hD
  refine lv_bipush (v := (-11)) hx hb dL_refusesAny_389 (by decide) ?_
  refine lv_icmp_ne (tgt := 516) hx hb dL_refusesAny_391 (by decide) (fun c82 => absurd rfl c82) (fun c82 => ?_)
  refine lv_aload_n hx hb dL_refusesAny_394 rfl (lv_at hl 3 rfl) ?_
  refine lv_iconst (v := 2) hx hb dL_refusesAny_395 (by decide) ?_
  refine lv_iload_n hx hb dL_refusesAny_396 rfl (lv_at hl 4 rfl) ?_
  refine lv_iconst (v := 2) hx hb dL_refusesAny_397 (by decide) ?_
  refine lv_irem hx hb dL_refusesAny_398 (by decide) ?_
  refine wl_top (y := nI (y % 2)) (pk_rem (a := y) (d := 2) (by omega) (by omega) (by omega)) ?_
  refine wl_if_ne (tgt := 406) hx hb (y % 2) dL_refusesAny_399 (by decide) (by omega) (fun c83 => ?_) (fun c83 => absurd c83 (by omega))
  refine lv_bipush (v := 11) hx hb dL_refusesAny_406 (by decide) ?_
  refine lv_iconst (v := 0) hx hb dL_refusesAny_408 (by decide) ?_
  refine wl_iSW (As := [.ref x, .int 2, .int 11, .int 0]) (rest := []) (bsC := [([(x, .inr (4, [.ref (sa 0), .ref (ja 0), .ref (ta 0), .ref h, .ref q]))] : va_W)]) (bsR := [txW cy ta q_z0]) ⟨hx, hb, hml, hown, hts⟩ (b_a_count1 l hl0 D cy x sa ja ta h q 11 0 H.size (by decide)) (vx_cwSW 4 hts gL_refusesAny_L_ask rfl rfl rfl (by decide +kernel) ⟨Nat.le_of_ble_eq_true rfl, Nat.le_of_ble_eq_true rfl⟩) wl_T9_b (fun U hU hW => wl_T9_w hU hW hS (wl_freeB (bsC := [([(x, .inr (4, [.ref (sa 0), .ref (ja 0), .ref (ta 0), .ref h, .ref q]))] : va_W)]) (bsR := [txW cy ta q_z0]) hD hS hA) hX) hK hP hD hS hA rfl hl.1 rfl (Nat.le_of_ble_eq_true rfl) dL_refusesAny_409 ⟨Nat.le_of_ble_eq_true rfl, Nat.le_of_ble_eq_true rfl⟩ (fun r84 bs85 H locs e86 _ _ hP hD hS => ?_)
  obtain ⟨er84, e86⟩ : r84 = (-11) ∧ bs85 = [([(x, .inr (4, [.ref (sa 0), .ref (ja 0), .ref (ta 0), .ref h, .ref q]))] : va_W)] := e86
  subst e86
  subst er84
  refine W.widen (k := 18) (n := 108) (Nat.le_refl _) (Nat.le_refl _) ?_
  have hP : va_P D vwCl ([([(x, .inr (4, [.ref (sa 0), .ref (ja 0), .ref (ta 0), .ref h, .ref q]))] : va_W), txW cy ta q_z0] : List va_W).flatten H := hP
  have hD : va_D A ([([(x, .inr (4, [.ref (sa 0), .ref (ja 0), .ref (ta 0), .ref h, .ref q]))] : va_W), txW cy ta q_z0] : List va_W).flatten := hD
  refine lv_bipush (v := (-11)) hx hb dL_refusesAny_412 (by decide) ?_
  refine lv_icmp_ne (tgt := 516) hx hb dL_refusesAny_414 (by decide) (fun c87 => absurd rfl c87) (fun c87 => ?_)
  refine lv_aload_n hx hb dL_refusesAny_417 rfl (lv_at hl 3 rfl) ?_
  refine lv_iconst (v := 3) hx hb dL_refusesAny_418 (by decide) ?_
  refine lv_iload_n hx hb dL_refusesAny_419 rfl (lv_at hl 4 rfl) ?_
  refine lv_iconst (v := 2) hx hb dL_refusesAny_420 (by decide) ?_
  refine lv_irem hx hb dL_refusesAny_421 (by decide) ?_
  refine wl_top (y := nI (y % 2)) (pk_rem (a := y) (d := 2) (by omega) (by omega) (by omega)) ?_
  refine wl_if_ne (tgt := 429) hx hb (y % 2) dL_refusesAny_422 (by decide) (by omega) (fun c88 => ?_) (fun c88 => absurd c88 (by omega))
  refine lv_iconst (v := 3) hx hb dL_refusesAny_429 (by decide) ?_
  refine lv_iconst (v := 0) hx hb dL_refusesAny_430 (by decide) ?_
  refine wl_iSW (As := [.ref x, .int 3, .int 3, .int 0]) (rest := []) (bsC := [([(x, .inr (4, [.ref (sa 0), .ref (ja 0), .ref (ta 0), .ref h, .ref q]))] : va_W)]) (bsR := [txW cy ta q_z0]) ⟨hx, hb, hml, hown, hts⟩ (b_a_setting1 l hl0 D cy x sa ja ta h q 3 0 H.size (by decide)) (vx_cwSW 4 hts gL_refusesAny_L_ask rfl rfl rfl (by decide +kernel) ⟨Nat.le_of_ble_eq_true rfl, Nat.le_of_ble_eq_true rfl⟩) wl_T9_b (fun U hU hW => wl_T9_w hU hW hS (wl_freeB (bsC := [([(x, .inr (4, [.ref (sa 0), .ref (ja 0), .ref (ta 0), .ref h, .ref q]))] : va_W)]) (bsR := [txW cy ta q_z0]) hD hS hA) hX) hK hP hD hS hA rfl hl.1 rfl (Nat.le_of_ble_eq_true rfl) dL_refusesAny_431 ⟨Nat.le_of_ble_eq_true rfl, Nat.le_of_ble_eq_true rfl⟩ (fun r89 bs90 H locs e91 _ _ hP hD hS => ?_)
  obtain ⟨er89, e91⟩ : r89 = (-10) ∧ bs90 = [([(x, .inr (4, [.ref (sa 0), .ref (ja 0), .ref (ta 0), .ref h, .ref q]))] : va_W)] := e91
  subst e91
  subst er89
  refine W.widen (k := 19) (n := 114) (Nat.le_refl _) (Nat.le_refl _) ?_
  have hP : va_P D vwCl ([([(x, .inr (4, [.ref (sa 0), .ref (ja 0), .ref (ta 0), .ref h, .ref q]))] : va_W), txW cy ta q_z0] : List va_W).flatten H := hP
  have hD : va_D A ([([(x, .inr (4, [.ref (sa 0), .ref (ja 0), .ref (ta 0), .ref h, .ref q]))] : va_W), txW cy ta q_z0] : List va_W).flatten := hD
  refine lv_bipush (v := (-10)) hx hb dL_refusesAny_434 (by decide) ?_
  refine lv_icmp_ne (tgt := 516) hx hb dL_refusesAny_436 (by decide) (fun c92 => absurd rfl c92) (fun c92 => ?_)
  refine lv_aload_n hx hb dL_refusesAny_439 rfl (lv_at hl 3 rfl) ?_
  refine lv_iconst (v := 4) hx hb dL_refusesAny_440 (by decide) ?_
  refine lv_iload_n hx hb dL_refusesAny_441 rfl (lv_at hl 2 rfl) ?_
  refine lv_bipush (v := 9) hx hb dL_refusesAny_442 (by decide) ?_
  refine wl_iSW (As := [.ref x, .int 4, .int (nI (8 + (y % 99))), .int 9]) (rest := []) (bsC := [([(x, .inr (4, [.ref (sa 0), .ref (ja 0), .ref (ta 0), .ref h, .ref q]))] : va_W)]) (bsR := [txW cy ta q_z0]) ⟨hx, hb, hml, hown, hts⟩ (b_a_ifGap1 l hl0 D cy x sa ja ta h q (nI (8 + (y % 99))) 9 H.size (p_big 8 rfl (by omega) (by omega))) (vx_cwSW 4 hts gL_refusesAny_L_ask rfl rfl rfl (by decide +kernel) ⟨Nat.le_of_ble_eq_true rfl, Nat.le_of_ble_eq_true rfl⟩) wl_T9_b (fun U hU hW => wl_T9_w hU hW hS (wl_freeB (bsC := [([(x, .inr (4, [.ref (sa 0), .ref (ja 0), .ref (ta 0), .ref h, .ref q]))] : va_W)]) (bsR := [txW cy ta q_z0]) hD hS hA) hX) hK hP hD hS hA rfl hl.1 rfl (Nat.le_of_ble_eq_true rfl) dL_refusesAny_444 ⟨Nat.le_of_ble_eq_true rfl, Nat.le_of_ble_eq_true rfl⟩ (fun r93 bs94 H locs e95 _ _ hP hD hS => ?_)
  obtain ⟨er93, e95⟩ : r93 = (-10) ∧ bs94 = [([(x, .inr (4, [.ref (sa 0), .ref (ja 0), .ref (ta 0), .ref h, .ref q]))] : va_W)] := e95
  subst e95
  subst er93
  refine W.widen (k := 20) (n := 120) (Nat.le_refl _) (Nat.le_refl _) ?_
  have hP : va_P D vwCl ([([(x, .inr (4, [.ref (sa 0), .ref (ja 0), .ref (ta 0), .ref h, .ref q]))] : va_W), txW cy ta q_z0] : List va_W).flatten H := hP
  have hD : va_D A ([([(x, .inr (4, [.ref (sa 0), .ref (ja 0), .ref (ta 0), .ref h, .ref q]))] : va_W), txW cy ta q_z0] : List va_W).flatten := hD
  refine lv_bipush (v := (-10)) hx hb dL_refusesAny_447 (by decide) ?_
  refine lv_icmp_ne (tgt := 516) hx hb dL_refusesAny_449 (by decide) (fun c96 => absurd rfl c96) (fun c96 => ?_)
  refine lv_aload_n hx hb dL_refusesAny_452 rfl (lv_at hl 3 rfl) ?_
  refine lv_iconst (v := 4) hx hb dL_refusesAny_453 (by decide) ?_
  refine lv_iconst (v := 0) hx hb dL_refusesAny_454 (by decide) ?_
  refine lv_iload_n hx hb dL_refusesAny_455 rfl (lv_at hl 4 rfl) ?_
  refine lv_iconst (v := 2) hx hb dL_refusesAny_456 (by decide) ?_
  refine lv_irem hx hb dL_refusesAny_457 (by decide) ?_
  refine wl_top (y := nI (y % 2)) (pk_rem (a := y) (d := 2) (by omega) (by omega) (by omega)) ?_
  refine wl_if_ne (tgt := 465) hx hb (y % 2) dL_refusesAny_458 (by decide) (by omega) (fun c97 => ?_) (fun c97 => absurd c97 (by omega))
  refine lv_iconst (v := 2) hx hb dL_refusesAny_465 (by decide) ?_
  refine wl_iSW (As := [.ref x, .int 4, .int 0, .int 2]) (rest := []) (bsC := [([(x, .inr (4, [.ref (sa 0), .ref (ja 0), .ref (ta 0), .ref h, .ref q]))] : va_W)]) (bsR := [txW cy ta q_z0]) ⟨hx, hb, hml, hown, hts⟩ (b_a_ifGap2 l hl0 D cy x sa ja ta h q 0 2 H.size (by decide) (by decide)) (vx_cwSW 4 hts gL_refusesAny_L_ask rfl rfl rfl (by decide +kernel) ⟨Nat.le_of_ble_eq_true rfl, Nat.le_of_ble_eq_true rfl⟩) wl_T9_b (fun U hU hW => wl_T9_w hU hW hS (wl_freeB (bsC := [([(x, .inr (4, [.ref (sa 0), .ref (ja 0), .ref (ta 0), .ref h, .ref q]))] : va_W)]) (bsR := [txW cy ta q_z0]) hD hS hA) hX) hK hP hD hS hA rfl hl.1 rfl (Nat.le_of_ble_eq_true rfl) dL_refusesAny_466 ⟨Nat.le_of_ble_eq_true rfl, Nat.le_of_ble_eq_true rfl⟩ (fun r98 bs99 H locs e100 _ _ hP hD hS => ?_)
  obtain ⟨er98, e100⟩ : r98 = (-11) ∧ bs99 = [([(x, .inr (4, [.ref (sa 0), .ref (ja 0), .ref (ta 0), .ref h, .ref q]))] : va_W)] := e100
  subst e100
  subst er98
  refine W.widen (k := 21) (n := 126) (Nat.le_refl _) (Nat.le_refl _) ?_
  have hP : va_P D vwCl ([([(x, .inr (4, [.ref (sa 0), .ref (ja 0), .ref (ta 0), .ref h, .ref q]))] : va_W), txW cy ta q_z0] : List va_W).flatten H := hP
  have hD : va_D A ([([(x, .inr (4, [.ref (sa 0), .ref (ja 0), .ref (ta 0), .ref h, .ref q]))] : va_W), txW cy ta q_z0] : List va_W).flatten := hD
  refine lv_bipush (v := (-11)) hx hb dL_refusesAny_469 (by decide) ?_
  refine lv_icmp_ne (tgt := 516) hx hb dL_refusesAny_471 (by decide) (fun c101 => absurd rfl c101) (fun c101 => ?_)
  refine lv_aload_n hx hb dL_refusesAny_474 rfl (lv_at hl 3 rfl) ?_
  refine lv_iconst (v := 5) hx hb dL_refusesAny_475 (by decide) ?_
  refine lv_iload_n hx hb dL_refusesAny_476 rfl (lv_at hl 1 rfl) ?_
  refine lv_iconst (v := 0) hx hb dL_refusesAny_477 (by decide) ?_
  refine wl_iSW (As := [.ref x, .int 5, .int (nI (4096 + (y % 99))), .int 0]) (rest := []) (bsC := [([(x, .inr (4, [.ref (sa 0), .ref (ja 0), .ref (ta 0), .ref h, .ref q]))] : va_W)]) (bsR := [txW cy ta q_z0]) ⟨hx, hb, hml, hown, hts⟩ (b_a_wrong1 l hl0 D cy x sa ja ta h q (nI (4096 + (y % 99))) 0 H.size (p_bigW 4095 rfl (by omega) (by omega))) (vx_cwSW 4 hts gL_refusesAny_L_ask rfl rfl rfl (by decide +kernel) ⟨Nat.le_of_ble_eq_true rfl, Nat.le_of_ble_eq_true rfl⟩) wl_T9_b (fun U hU hW => wl_T9_w hU hW hS (wl_freeB (bsC := [([(x, .inr (4, [.ref (sa 0), .ref (ja 0), .ref (ta 0), .ref h, .ref q]))] : va_W)]) (bsR := [txW cy ta q_z0]) hD hS hA) hX) hK hP hD hS hA rfl hl.1 rfl (Nat.le_of_ble_eq_true rfl) dL_refusesAny_478 ⟨Nat.le_of_ble_eq_true rfl, Nat.le_of_ble_eq_true rfl⟩ (fun r102 bs103 H locs e104 _ _ hP hD hS => ?_)
  obtain ⟨er102, e104⟩ : r102 = (-11) ∧ bs103 = [([(x, .inr (4, [.ref (sa 0), .ref (ja 0), .ref (ta 0), .ref h, .ref q]))] : va_W)] := e104
  subst e104
  subst er102
  refine W.widen (k := 22) (n := 132) (Nat.le_refl _) (Nat.le_refl _) ?_
  have hP : va_P D vwCl ([([(x, .inr (4, [.ref (sa 0), .ref (ja 0), .ref (ta 0), .ref h, .ref q]))] : va_W), txW cy ta q_z0] : List va_W).flatten H := hP
  have hD : va_D A ([([(x, .inr (4, [.ref (sa 0), .ref (ja 0), .ref (ta 0), .ref h, .ref q]))] : va_W), txW cy ta q_z0] : List va_W).flatten := hD
  refine lv_bipush (v := (-11)) hx hb dL_refusesAny_481 (by decide) ?_
  refine lv_icmp_ne (tgt := 516) hx hb dL_refusesAny_483 (by decide) (fun c105 => absurd rfl c105) (fun c105 => ?_)
  refine lv_aload_n hx hb dL_refusesAny_486 rfl (lv_at hl 3 rfl) ?_
  refine lv_bipush (v := 6) hx hb dL_refusesAny_487 (by decide) ?_
  refine lv_iload_n hx hb dL_refusesAny_489 rfl (lv_at hl 2 rfl) ?_
  refine lv_iconst (v := 0) hx hb dL_refusesAny_490 (by decide) ?_
  refine wl_iSW (As := [.ref x, .int 6, .int (nI (8 + (y % 99))), .int 0]) (rest := []) (bsC := [([(x, .inr (4, [.ref (sa 0), .ref (ja 0), .ref (ta 0), .ref h, .ref q]))] : va_W)]) (bsR := [txW cy ta q_z0]) ⟨hx, hb, hml, hown, hts⟩ (b_a_bears1 l hl0 D cy x sa ja ta h q (nI (8 + (y % 99))) 0 H.size (p_big 8 rfl (by omega) (by omega))) (vx_cwSW 4 hts gL_refusesAny_L_ask rfl rfl rfl (by decide +kernel) ⟨Nat.le_of_ble_eq_true rfl, Nat.le_of_ble_eq_true rfl⟩) wl_T9_b (fun U hU hW => wl_T9_w hU hW hS (wl_freeB (bsC := [([(x, .inr (4, [.ref (sa 0), .ref (ja 0), .ref (ta 0), .ref h, .ref q]))] : va_W)]) (bsR := [txW cy ta q_z0]) hD hS hA) hX) hK hP hD hS hA rfl hl.1 rfl (Nat.le_of_ble_eq_true rfl) dL_refusesAny_491 ⟨Nat.le_of_ble_eq_true rfl, Nat.le_of_ble_eq_true rfl⟩ (fun r106 bs107 H locs e108 _ _ hP hD hS => ?_)
  obtain ⟨er106, e108⟩ : r106 = (-10) ∧ bs107 = [([(x, .inr (4, [.ref (sa 0), .ref (ja 0), .ref (ta 0), .ref h, .ref q]))] : va_W)] := e108
  subst e108
  subst er106
  refine W.widen (k := 23) (n := 138) (Nat.le_refl _) (Nat.le_refl _) ?_
  have hP : va_P D vwCl ([([(x, .inr (4, [.ref (sa 0), .ref (ja 0), .ref (ta 0), .ref h, .ref q]))] : va_W), txW cy ta q_z0] : List va_W).flatten H := hP
  have hD : va_D A ([([(x, .inr (4, [.ref (sa 0), .ref (ja 0), .ref (ta 0), .ref h, .ref q]))] : va_W), txW cy ta q_z0] : List va_W).flatten := hD
  refine lv_bipush (v := (-10)) hx hb dL_refusesAny_494 (by decide) ?_
  refine lv_icmp_ne (tgt := 516) hx hb dL_refusesAny_496 (by decide) (fun c109 => absurd rfl c109) (fun c109 => ?_)
  refine lv_aload_n hx hb dL_refusesAny_499 rfl (lv_at hl 3 rfl) ?_
  refine lv_bipush (v := 7) hx hb dL_refusesAny_500 (by decide) ?_
  refine lv_iload_n hx hb dL_refusesAny_502 rfl (lv_at hl 2 rfl) ?_
  refine lv_iconst (v := 0) hx hb dL_refusesAny_503 (by decide) ?_
  refine wl_iSW (As := [.ref x, .int 7, .int (nI (8 + (y % 99))), .int 0]) (rest := []) (bsC := [([(x, .inr (4, [.ref (sa 0), .ref (ja 0), .ref (ta 0), .ref h, .ref q]))] : va_W)]) (bsR := [txW cy ta q_z0]) ⟨hx, hb, hml, hown, hts⟩ (b_a_wordsTo1 l hl0 D cy x sa ja ta h q (nI (8 + (y % 99))) 0 H.size (p_big 8 rfl (by omega) (by omega))) (vx_cwSW 4 hts gL_refusesAny_L_ask rfl rfl rfl (by decide +kernel) ⟨Nat.le_of_ble_eq_true rfl, Nat.le_of_ble_eq_true rfl⟩) wl_T9_b (fun U hU hW => wl_T9_w hU hW hS (wl_freeB (bsC := [([(x, .inr (4, [.ref (sa 0), .ref (ja 0), .ref (ta 0), .ref h, .ref q]))] : va_W)]) (bsR := [txW cy ta q_z0]) hD hS hA) hX) hK hP hD hS hA rfl hl.1 rfl (Nat.le_of_ble_eq_true rfl) dL_refusesAny_504 ⟨Nat.le_of_ble_eq_true rfl, Nat.le_of_ble_eq_true rfl⟩ (fun r110 bs111 H locs e112 _ _ hP hD hS => ?_)
  obtain ⟨er110, e112⟩ : r110 = (-10) ∧ bs111 = [([(x, .inr (4, [.ref (sa 0), .ref (ja 0), .ref (ta 0), .ref h, .ref q]))] : va_W)] := e112
  subst e112
  subst er110
  refine W.widen (k := 24) (n := 144) (Nat.le_refl _) (Nat.le_refl _) ?_
  have hP : va_P D vwCl ([([(x, .inr (4, [.ref (sa 0), .ref (ja 0), .ref (ta 0), .ref h, .ref q]))] : va_W), txW cy ta q_z0] : List va_W).flatten H := hP
  have hD : va_D A ([([(x, .inr (4, [.ref (sa 0), .ref (ja 0), .ref (ta 0), .ref h, .ref q]))] : va_W), txW cy ta q_z0] : List va_W).flatten := hD
  refine lv_bipush (v := (-10)) hx hb dL_refusesAny_507 (by decide) ?_
  refine lv_icmp_ne (tgt := 516) hx hb dL_refusesAny_509 (by decide) (fun c113 => absurd rfl c113) (fun c113 => ?_)
  refine lv_iconst (v := 1) hx hb dL_refusesAny_512 (by decide) ?_
  refine lv_goto (tgt := 517) hx hb dL_refusesAny_513 (by decide) ?_
  exact wl_Rz (bs := [([(x, .inr (4, [.ref (sa 0), .ref (ja 0), .ref (ta 0), .ref h, .ref q]))] : va_W), txW cy ta q_z0]) (r := 1) (True) hx hb hr hlocks hAe hP hD hS (by rfl) (by exact ⟨rfl, rfl⟩) dL_refusesAny_517
theorem m_L_refusesAny (l : Launch) (hl0 : l.stackTraces = false) (D : va_G) (cy : Nat → ClassId) (x : Nat) (sa ja ta : Nat → Nat) (h q : Nat) (y : Nat) (sz : Nat) (hy2 : y < 2 ^ 31) : Met l yL_refusesAny wsL_refusesAny ({ frames := 8, cells := 24, slots := 144, locals := 137 } : Room) (wl_ic D cy (wl_T9 (va_A ([([(x, .inr (4, [.ref (sa 0), .ref (ja 0), .ref (ta 0), .ref h, .ref q]))] : va_W), txW cy ta q_z0] : List va_W).flatten sz)) [([(x, .inr (4, [.ref (sa 0), .ref (ja 0), .ref (ta 0), .ref h, .ref q]))] : va_W), txW cy ta q_z0] sz [.ref x, .int (nI y)]) (va_Qi (fun (r : Int32) (bs : List va_W) => r = (if True then 1 else 0) ∧ bs = [([(x, .inr (4, [.ref (sa 0), .ref (ja 0), .ref (ta 0), .ref h, .ref q]))] : va_W), txW cy ta q_z0]) (wl_ib D [([(x, .inr (4, [.ref (sa 0), .ref (ja 0), .ref (ta 0), .ref h, .ref q]))] : va_W), txW cy ta q_z0] sz) (va_A ([([(x, .inr (4, [.ref (sa 0), .ref (ja 0), .ref (ta 0), .ref h, .ref q]))] : va_W), txW cy ta q_z0] : List va_W).flatten sz)) 24 144 (va_A ([([(x, .inr (4, [.ref (sa 0), .ref (ja 0), .ref (ta 0), .ref h, .ref q]))] : va_W), txW cy ta q_z0] : List va_W).flatten sz) := by
  rcases Nat.mod_two_eq_zero_or_one y with e1 | e1
  · exact m_L_refusesAnyE l hl0 D cy x sa ja ta h q y sz e1 hy2
  · exact m_L_refusesAnyO l hl0 D cy x sa ja ta h q y sz e1 hy2
