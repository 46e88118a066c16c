/-! ONE CALL: undo, load; what the law calls itself -/
section OPS
variable {l : Launch} {D : va_G} {cy : Nat → ClassId} {x : Nat} {sa ja ta : Nat → Nat} {h g q o : Nat} {a : Nat → Nat} {u : Nat → Nat → Int32}
variable {L : HsL} {z : Nat} {t w v : Nat → Nat → Int32} {sl : Nat → Option ((Nat → Nat) × (Nat → Nat → Int32))} {f9 : Nat → Int64}
set_option maxHeartbeats 4000000 in
set_option maxRecDepth 100000 in
theorem op_undo (hl0 : l.stackTraces = false) (hI : q_I (L, z, t, w, v, sl, f9) u) : q_Op l D cy x sa ja ta h g q o a [] yL_undo wsL_undo yX5_undo wsX5_undo (L, z, t, w, v, sl, f9) u := by
  obtain ⟨hz, hL, h60, h63, ⟨n, hR⟩, hV, hS, k0, hT⟩ := id hI
  have hz : z ≤ L.length := hz
  have hL : L.length ≤ 6 := hL
  have h60 : u 6 0 = nI z := h60
  have h63 : u 6 3 = -1 := h63
  have hR : q_R n v (u 0) := hR
  have hT : q_T k0 t u := hT
  have hE := q_R_E hR
  have hn49 := q_R_49 hR
  rcases Nat.eq_zero_or_pos z with rfl | hz0
  · exact q_mkB (c := 1) hI rfl (by decide) [0, 1, 2, 4, 5, 6, 7, 8, 9, 10, 3] [wXB x sa ja ta h q, wHB h g 0, wGB cy g (q_rf L), wOB cy o f9] [plW cy L, txW cy ta t, joW cy ja w, stW cy sa v, wQB cy q (slF sl), slW cy (sl 0), slW cy (sl 1)] (fun sz => b_L_undo1 l hl0 D cy x sa ja ta h q g (q_rf L) o f9 sz) (fun sz => r_X5_undo1 l D cy a u sz h60) rfl (by decide) rfl ⟨Nat.le_of_ble_eq_true rfl, Nat.le_of_ble_eq_true rfl, Nat.le_of_ble_eq_true rfl, Nat.le_of_ble_eq_true rfl⟩ ⟨Nat.le_of_ble_eq_true rfl, Nat.le_of_ble_eq_true rfl, rfl, rfl⟩ rfl rfl
  · obtain ⟨L1, ⟨b, y⟩, L2, e, hl⟩ : ∃ (L1 : HsL) (y : (Nat → Nat) × (Nat → Nat → Int32)) (L2 : HsL), L = L1 ++ y :: L2 ∧ L1.length = z - 1 := ⟨L.take (z - 1), L[z - 1]'(by omega), L.drop (z - 1 + 1), by simp, by simp; omega⟩
    subst e
    obtain rfl : z = L1.length + 1 := by omega
    have hV : q_V (((L1 ++ (b, y) :: L2).take (L1.length + 1)).map Prod.snd) u := hV
    obtain ⟨m, hm⟩ := hV L1.length y (by simp [List.take_append])
    have hR1 : q_R m y ((sf (su (su u 6 2 (nI 0)) 6 0 (nI (L1.length + 1 - 1))) 0 (q_cp ((su (su u 6 2 (nI 0)) 6 0 (nI (L1.length + 1 - 1))) 1) ((su (su u 6 2 (nI 0)) 6 0 (nI (L1.length + 1 - 1))) 0) (170 * (L1.length + 1 - 1)) 0 170)) 0) := by
      refine q_R_c hm (fun k hk => ?_)
      show q_cp (u 1) (u 0) (170 * (L1.length + 1 - 1)) 0 170 k = u 1 (170 * L1.length + k)
      unfold q_cp
      rw [if_pos (by omega), show 170 * (L1.length + 1 - 1) + (k - 0) = 170 * L1.length + k by omega]
    have hV1 : q_V (((L1 ++ (b, y) :: L2).take (L1.length + 1 - 1)).map Prod.snd) (sf (su (su u 6 2 (nI 0)) 6 0 (nI (L1.length + 1 - 1))) 0 (q_cp ((su (su u 6 2 (nI 0)) 6 0 (nI (L1.length + 1 - 1))) 1) ((su (su u 6 2 (nI 0)) 6 0 (nI (L1.length + 1 - 1))) 0) (170 * (L1.length + 1 - 1)) 0 170)) := by
      intro j y2 hj
      have hj1 : j < L1.length := by
        have := (List.getElem?_eq_some_iff.mp hj).1
        simp at this
        omega
      refine hV j y2 ?_
      rw [List.getElem?_map, List.getElem?_take, if_pos (by omega)] at hj ⊢
      exact hj
    have ew : (q_W cy x sa ja ta h g q o (L1 ++ (b, y) :: L2, L1.length + 1, t, w, v, sl, f9)).flatten = ([wXB x sa ja ta h q, wHB h g (L1.length + 1), wGB cy g (q_rf (L1 ++ (b, y) :: L2)), plW cy L1, stW cy b y, plW cy L2, txW cy ta t, joW cy ja w, stW cy sa (v), wQB cy q (slF sl), slW cy (sl 0), slW cy (sl 1), wOB cy o (f9)] : List va_W).flatten := by
      simp [q_W, plW_app, plW_cons]
    have ew2 : (q_W cy x sa ja ta h g q o (L1 ++ (b, y) :: L2, L1.length + 1 - 1, t, w, y, sl, vp_updL f9 0 (Int32.toInt64 (nI (L1.length + 1 - 1))))).flatten = ([wXB x sa ja ta h q, wHB h g (L1.length + 1 - 1), wGB cy g (q_rf (L1 ++ (b, y) :: L2)), plW cy L1, stW cy b y, plW cy L2, txW cy ta t, joW cy ja w, stW cy sa (y), wQB cy q (slF sl), slW cy (sl 0), slW cy (sl 1), wOB cy o (vp_updL f9 0 (Int32.toInt64 (nI (L1.length + 1 - 1))))] : List va_W).flatten := by
      simp [q_W, plW_app, plW_cons]
    exact q_mkG (S1 := (L1 ++ (b, y) :: L2, L1.length + 1 - 1, t, w, y, sl, vp_updL f9 0 (Int32.toInt64 (nI (L1.length + 1 - 1))))) (u1 := sf (su (su u 6 2 (nI 0)) 6 0 (nI (L1.length + 1 - 1))) 0 (q_cp ((su (su u 6 2 (nI 0)) 6 0 (nI (L1.length + 1 - 1))) 1) ((su (su u 6 2 (nI 0)) 6 0 (nI (L1.length + 1 - 1))) 0) (170 * (L1.length + 1 - 1)) 0 170)) (ans := nI (L1.length + 1 - 1)) ⟨(show L1.length + 1 - 1 ≤ (L1 ++ (b, y) :: L2).length by omega), hL, rfl, h63, ⟨m, hR1⟩, hV1, hS, k0, q_T_c hT rfl rfl⟩ rfl rfl rfl [wXB x sa ja ta h q, wHB h g (L1.length + 1), wGB cy g (q_rf (L1 ++ (b, y) :: L2)), stW cy b y, stW cy sa (v), wOB cy o (f9)] [plW cy L1, plW cy L2, txW cy ta t, joW cy ja w, wQB cy q (slF sl), slW cy (sl 0), slW cy (sl 1)] (fun sz => m_L_undo l D cy x sa ja ta h q g (q_rf (L1 ++ (b, y) :: L2)) (L1.length + 1) v b y o f9 sz (by omega) (by omega) (by simp [q_rf])) (fun sz => r_X5_undo l D cy a u (L1.length + 1) sz (by omega) h60 (by omega)) (by rw [ew]; exact (wl_perm [0, 1, 2, 6, 3, 7, 8, 9, 4, 10, 11, 12, 5] 13 rfl (by decide) rfl).flatten) (by rw [ew2]; exact (wl_perm [0, 1, 2, 6, 3, 7, 8, 9, 4, 10, 11, 12, 5] 13 rfl (by decide) rfl).flatten) ⟨Nat.le_of_ble_eq_true rfl, Nat.le_of_ble_eq_true rfl, Nat.le_of_ble_eq_true rfl, Nat.le_of_ble_eq_true rfl⟩ ⟨Nat.le_of_ble_eq_true rfl, Nat.le_of_ble_eq_true rfl, rfl, rfl⟩ rfl rfl
set_option maxHeartbeats 4000000 in
set_option maxRecDepth 100000 in
theorem op_load (hl0 : l.stackTraces = false) (hI : q_I (L, z, t, w, v, sl, f9) u) : q_Op l D cy x sa ja ta h g q o a [] yL_load wsL_load yX5_load wsX5_load (L, z, t, w, v, sl, f9) u := by
  obtain ⟨hz, hL, h60, h63, ⟨n, hR⟩, hV, hS, k0, hT⟩ := id hI
  have hz : z ≤ L.length := hz
  have hL : L.length ≤ 6 := hL
  have h60 : u 6 0 = nI z := h60
  have h63 : u 6 3 = -1 := h63
  have hR : q_R n v (u 0) := hR
  have hT : q_T k0 t u := hT
  have hE := q_R_E hR
  have hn49 := q_R_49 hR
  have hx := q_T_tv hT
  have hc : ∀ y, y < k0 → vp_nar .char (t 0 y) = t 0 y := fun y hy => (hT.2.2.2 y hy).2
  have hw : q_wt t k0 = q_wt (tv u) k0 := q_wt_c hx
  have hsg : q_sg t k0 (nI k0 - 1) = q_sg (tv u) k0 (nI k0 - 1) := q_sg_c hx _
  by_cases hw0 : q_wt t k0 = 0
  · refine q_mk 1 0 (fun S' => S' = (L, z, t, w, v, sl, f9)) (fun u' => ∃ Z, u' = su Z 6 2 (nI 1) ∧ q_RT u k0 Z) [wXB x sa ja ta h q, txW cy ta t, wOB cy o f9] [wHB h g z, wGB cy g (q_rf L), plW cy L, joW cy ja w, stW cy sa v, wQB cy q (slF sl), slW cy (sl 0), slW cy (sl 1)] (fun sz => b_L_load1 l hl0 D cy x sa ja ta h q t k0 o f9 sz hT.2.1 hT.1 hc hw0) (wl_perm [0, 3, 4, 5, 1, 6, 7, 8, 9, 10, 2] 11 rfl (by decide) rfl).flatten (fun r b hb => ?_) (fun sz => r_X5_load1 l D cy a u k0 sz hT.2.2.1 hT.1 (hw.symm.trans hw0)) (fun r b hb => ?_) (fun S' u' e1 e2 => ?_) ⟨Nat.le_of_ble_eq_true rfl, Nat.le_of_ble_eq_true rfl, Nat.le_of_ble_eq_true rfl, Nat.le_of_ble_eq_true rfl⟩ ⟨Nat.le_of_ble_eq_true rfl, Nat.le_of_ble_eq_true rfl, rfl, rfl⟩ rfl rfl
    · obtain ⟨e1, e2⟩ := hb
      subst e2
      exact ⟨_, e1, rfl, (wl_perm [0, 3, 4, 5, 1, 6, 7, 8, 9, 10, 2] 11 rfl (by decide) rfl).flatten⟩
    · obtain ⟨Z, e1, e2, e3⟩ := hb
      exact ⟨_, e1, e2, Z, rfl, e3⟩
    · subst e1
      obtain ⟨Z, rfl, hZ⟩ := e2
      exact ⟨q_I_th (q_I_RT hI hZ), rfl, fun e => absurd e (by decide)⟩
  · have hwu : ¬ q_wt (tv u) k0 = 0 := fun q => hw0 (hw.trans q)
    by_cases hf : n + q_wt t k0 * 12 ≤ 120
    · by_cases hg : q_sg t k0 (nI k0 - 1) = 33
      · refine q_mk 0 (nI (q_wt (tv u) k0)) (fun S' => ∃ L1 z1, S' = (L1, z1, su t 1 0 0, q_gt (q_ld t k0 n v (q_wt t k0)) w (n + 12 * q_wt t k0) 8, q_gp (q_ld t k0 n v (q_wt t k0)) (q_gt (q_ld t k0 n v (q_wt t k0)) w (n + 12 * q_wt t k0) 8), sl, vp_updL f9 0 (Int32.toInt64 (nI (q_wt t k0)))) ∧ z1 ≤ L1.length ∧ L1.length ≤ 6 ∧ (L1.take z1).map Prod.snd = q_push ((L.take z).map Prod.snd) v) (fun u' => ∃ Z, u' = q_gq (q_ldm (tv u) k0 n (su (q_sv (su Z 6 2 (nI 0)) z) 6 1 0) (q_wt (tv u) k0)) (n + 12 * q_wt (tv u) k0) ∧ q_RT u k0 Z) [wXB x sa ja ta h q, wHB h g z, wGB cy g (q_rf L), plW cy L, txW cy ta t, joW cy ja w, stW cy sa v, wOB cy o f9] [wQB cy q (slF sl), slW cy (sl 0), slW cy (sl 1)] (fun sz => m_L_loadG l D cy x sa ja ta h q g L z t w v k0 n o f9 sz hz hL hT.2.1 hT.1 hc hR.2.1 hR.1 (by omega) hf hg) (wl_perm [0, 1, 2, 3, 4, 5, 6, 8, 9, 10, 7] 11 rfl (by decide) rfl).flatten (fun r b hb => ?_) (fun sz => r_X5_loadG l D cy a u k0 n z sz hT.2.2.1 hT.1 hn49 hR.1 h60 (by omega) hwu (by omega) (hsg ▸ hg)) (fun r b hb => ?_) (fun S' u' e1 e2 => ?_) ⟨Nat.le_of_ble_eq_true rfl, Nat.le_of_ble_eq_true rfl, Nat.le_of_ble_eq_true rfl, Nat.le_of_ble_eq_true rfl⟩ ⟨Nat.le_of_ble_eq_true rfl, Nat.le_of_ble_eq_true rfl, rfl, rfl⟩ rfl rfl
        · obtain ⟨L1, z1, e1, e2, f1, f2, f3⟩ := hb
          subst e2
          exact ⟨_, e1, ⟨L1, z1, rfl, f1, f2, f3⟩, (wl_perm [0, 1, 2, 3, 4, 5, 6, 8, 9, 10, 7] 11 rfl (by decide) rfl).flatten⟩
        · obtain ⟨Z, e1, e2, e3⟩ := hb
          exact ⟨_, e1, e2, Z, rfl, e3⟩
        · obtain ⟨L1, z1, rfl, f1, f2, f3⟩ := e1
          obtain ⟨Z, rfl, hZ⟩ := e2
          have hRZ : q_R n v (Z 0) := by
            rw [hZ.1 0 (by omega)]
            exact hR
          have hZ3 : Z 6 3 = -1 := hZ.2.1.2.2.2.trans h63
          have hRl := q_R_ld hx (U := (su (q_sv (su Z 6 2 (nI 0)) z) 6 1 0)) hRZ (q_wt t k0) (by omega)
          have hRg := q_R_gap (w := w) (u := q_ldm (tv u) k0 n (su (q_sv (su Z 6 2 (nI 0)) z) 6 1 0) (q_wt t k0)) hRl ((congrFun (q_ldm_r (r := 6) (by decide) _) 3).trans hZ3)
          rw [← hw]
          refine ⟨q_I_push (q_I_RT hI hZ) f1 f2 f3 ⟨0, hRg⟩ ((q_gq_r (by decide)).trans ((q_ldm_r (by decide) _).trans rfl)) ((q_gq_r (by decide)).trans ((q_ldm_r (by decide) _).trans rfl)) ((q_gq_r (by decide)).trans ((q_ldm_r (by decide) _).trans rfl)) ((congrFun (q_gq_r (r := 6) (by decide)) 0).trans ((congrFun (q_ldm_r (r := 6) (by decide) _) 0).trans rfl)) ((congrFun (q_gq_r (r := 6) (by decide)) 3).trans rfl) ⟨0, q_T_z rfl ((congrFun (q_gq_r (r := 6) (by decide)) 1).trans ((congrFun (q_ldm_r (r := 6) (by decide) _) 1).trans rfl))⟩, ((congrFun (q_gq_r (r := 6) (by decide)) 2).trans ((congrFun (q_ldm_r (r := 6) (by decide) _) 2).trans rfl)), fun _ => rfl⟩
      · refine q_mk 0 (nI (q_wt (tv u) k0)) (fun S' => ∃ L1 z1, S' = (L1, z1, su t 1 0 0, w, q_ld t k0 n v (q_wt t k0), sl, vp_updL f9 0 (Int32.toInt64 (nI (q_wt t k0)))) ∧ z1 ≤ L1.length ∧ L1.length ≤ 6 ∧ (L1.take z1).map Prod.snd = q_push ((L.take z).map Prod.snd) v) (fun u' => ∃ Z, u' = q_ldm (tv u) k0 n (su (q_sv (su Z 6 2 (nI 0)) z) 6 1 0) (q_wt (tv u) k0) ∧ q_RT u k0 Z) [wXB x sa ja ta h q, wHB h g z, wGB cy g (q_rf L), plW cy L, txW cy ta t, stW cy sa v, wOB cy o f9] [joW cy ja w, wQB cy q (slF sl), slW cy (sl 0), slW cy (sl 1)] (fun sz => m_L_loadN l D cy x sa ja ta h q g L z t v k0 n o f9 sz hz hL hT.2.1 hT.1 hc hR.2.1 hR.1 (by omega) hf hg) (wl_perm [0, 1, 2, 3, 4, 7, 5, 8, 9, 10, 6] 11 rfl (by decide) rfl).flatten (fun r b hb => ?_) (fun sz => r_X5_loadN l D cy a u k0 n z sz hT.2.2.1 hT.1 hn49 hR.1 h60 (by omega) hwu (by omega) (hsg ▸ hg)) (fun r b hb => ?_) (fun S' u' e1 e2 => ?_) ⟨Nat.le_of_ble_eq_true rfl, Nat.le_of_ble_eq_true rfl, Nat.le_of_ble_eq_true rfl, Nat.le_of_ble_eq_true rfl⟩ ⟨Nat.le_of_ble_eq_true rfl, Nat.le_of_ble_eq_true rfl, rfl, rfl⟩ rfl rfl
        · obtain ⟨L1, z1, e1, e2, f1, f2, f3⟩ := hb
          subst e2
          exact ⟨_, e1, ⟨L1, z1, rfl, f1, f2, f3⟩, (wl_perm [0, 1, 2, 3, 4, 7, 5, 8, 9, 10, 6] 11 rfl (by decide) rfl).flatten⟩
        · obtain ⟨Z, e1, e2, e3⟩ := hb
          exact ⟨_, e1, e2, Z, rfl, e3⟩
        · obtain ⟨L1, z1, rfl, f1, f2, f3⟩ := e1
          obtain ⟨Z, rfl, hZ⟩ := e2
          have hRZ : q_R n v (Z 0) := by
            rw [hZ.1 0 (by omega)]
            exact hR
          have hZ3 : Z 6 3 = -1 := hZ.2.1.2.2.2.trans h63
          have hRl := q_R_ld hx (U := (su (q_sv (su Z 6 2 (nI 0)) z) 6 1 0)) hRZ (q_wt t k0) (by omega)
          rw [← hw]
          refine ⟨q_I_push (q_I_RT hI hZ) f1 f2 f3 ⟨n + 12 * q_wt t k0, hRl⟩ ((q_ldm_r (by decide) _).trans rfl) ((q_ldm_r (by decide) _).trans rfl) ((q_ldm_r (by decide) _).trans rfl) ((congrFun (q_ldm_r (r := 6) (by decide) _) 0).trans rfl) ((congrFun (q_ldm_r (r := 6) (by decide) _) 3).trans hZ3) ⟨0, q_T_z rfl ((congrFun (q_ldm_r (r := 6) (by decide) _) 1).trans rfl)⟩, ((congrFun (q_ldm_r (r := 6) (by decide) _) 2).trans rfl), fun _ => rfl⟩
    · refine q_mk 0 (-1) (fun S' => ∃ L1 z1, S' = (L1, z1, su t 1 0 0, w, q_rfu v, sl, vp_updL f9 0 (Int32.toInt64 (-1))) ∧ z1 ≤ L1.length ∧ L1.length ≤ 6 ∧ (L1.take z1).map Prod.snd = q_push ((L.take z).map Prod.snd) v) (fun u' => ∃ Z, u' = su (su (q_sv (su Z 6 2 (nI 0)) z) 6 1 0) 0 48 (zv (su (q_sv (su Z 6 2 (nI 0)) z) 6 1 0) 7 5 + 1) ∧ q_RT u k0 Z) [wXB x sa ja ta h q, wHB h g z, wGB cy g (q_rf L), plW cy L, txW cy ta t, stW cy sa v, wOB cy o f9] [joW cy ja w, wQB cy q (slF sl), slW cy (sl 0), slW cy (sl 1)] (fun sz => m_L_loadF l D cy x sa ja ta h q g L z t v k0 n o f9 sz hz hL hT.2.1 hT.1 hc hR.2.1 hR.1 (by omega) hf) (wl_perm [0, 1, 2, 3, 4, 7, 5, 8, 9, 10, 6] 11 rfl (by decide) rfl).flatten (fun r b hb => ?_) (fun sz => r_X5_loadF l D cy a u k0 n z sz hT.2.2.1 hT.1 hn49 hR.1 h60 (by omega) hwu (by omega)) (fun r b hb => ?_) (fun S' u' e1 e2 => ?_) ⟨Nat.le_of_ble_eq_true rfl, Nat.le_of_ble_eq_true rfl, Nat.le_of_ble_eq_true rfl, Nat.le_of_ble_eq_true rfl⟩ ⟨Nat.le_of_ble_eq_true rfl, Nat.le_of_ble_eq_true rfl, rfl, rfl⟩ rfl rfl
      · obtain ⟨L1, z1, e1, e2, f1, f2, f3⟩ := hb
        subst e2
        exact ⟨_, e1, ⟨L1, z1, rfl, f1, f2, f3⟩, (wl_perm [0, 1, 2, 3, 4, 7, 5, 8, 9, 10, 6] 11 rfl (by decide) rfl).flatten⟩
      · obtain ⟨Z, e1, e2, e3⟩ := hb
        exact ⟨_, e1, e2, Z, rfl, e3⟩
      · obtain ⟨L1, z1, rfl, f1, f2, f3⟩ := e1
        obtain ⟨Z, rfl, hZ⟩ := e2
        have hRZ : q_R n v (Z 0) := by
          rw [hZ.1 0 (by omega)]
          exact hR
        have hZ3 : Z 6 3 = -1 := hZ.2.1.2.2.2.trans h63
        exact ⟨q_I_push (q_I_RT hI hZ) f1 f2 f3 ⟨n, q_R_rfu (u := (su (q_sv (su Z 6 2 (nI 0)) z) 6 1 0)) hRZ⟩ rfl rfl rfl rfl hZ3 ⟨0, q_T_z rfl rfl⟩, rfl, fun _ => rfl⟩
end OPS
/-! what the law calls itself -/
def q_OpD (l : Launch) (D : va_G) (cy : Nat → ClassId) (x : Nat) (sa ja ta : Nat → Nat) (h g q o : Nat) (a : Nat → Nat) (yL : MethodName) (wsL : List Cond) (yR : MethodName) (wsR : List Cond) (S : q_S) (u : Nat → Nat → Int32) : Prop :=
  ∃ (b0 : Int32) (P : q_S → Prop) (PU : (Nat → Nat → Int32) → Prop) (rm rmR : Room), (rm.frames ≤ 9 ∧ rm.locals ≤ 300 ∧ rm.cells ≤ 8 ∧ rm.slots ≤ 176) ∧ (rmR.frames ≤ 9 ∧ rmR.locals ≤ 300 ∧ rmR.cells = 0 ∧ rmR.slots = 0) ∧
  (∀ sz : Nat, Met l yL wsL rm (wl_ic D cy wl_E (q_W cy x sa ja ta h g q o S) sz [.ref x]) (va_Qi (fun (r : Int32) (bs : List va_W) => ∃ S' : q_S, r = b0 ∧ bs = q_W cy x sa ja ta h g q o S' ∧ P S') (wl_ib D (q_W cy x sa ja ta h g q o S) sz) (va_A (q_W cy x sa ja ta h g q o S).flatten sz)) rm.cells rm.slots (va_A (q_W cy x sa ja ta h g q o S).flatten sz)) ∧
  (∀ sz : Nat, Met l yR wsR rmR (wl_ic D cy (fun _ => True) [moW cy a u] sz [.ref (a 0)]) (va_Qi (fun (r : Int32) (bs : List va_W) => ∃ u', r = b0 ∧ bs = [moW cy a u'] ∧ PU u') (wl_ib D [moW cy a u] sz) (va_A ([moW cy a u] : List va_W).flatten sz)) 0 0 (va_A ([moW cy a u] : List va_W).flatten sz)) ∧
  ∀ (S' : q_S) (u' : Nat → Nat → Int32), P S' → PU u' → q_I S' u'
section MKD
variable {l : Launch} {D : va_G} {cy : Nat → ClassId} {x : Nat} {sa ja ta : Nat → Nat} {h g q o : Nat} {a : Nat → Nat} {yL yR : MethodName} {wsL wsR : List Cond} {S : q_S} {u : Nat → Nat → Int32} {rm rmR : Room} {mc ms : Nat}
theorem q_mkD {X : State → Prop} {postC postR : Int32 → List va_W → Prop} (b0 : Int32) (P : q_S → Prop) (PU : (Nat → Nat → Int32) → Prop) (bsC bsR : List va_W)
    (hC : ∀ sz : Nat, Met l yL wsL rm (wl_ic D cy X bsC sz [.ref x]) (va_Qi postC (wl_ib D bsC sz) (va_A bsC.flatten sz)) mc ms (va_A bsC.flatten sz)) (hX : ∀ U, wl_E U → X U)
    (hp : (bsC ++ bsR).flatten.Perm (q_W cy x sa ja ta h g q o S).flatten)
    (hpC : ∀ r b, postC r b → ∃ S' : q_S, r = b0 ∧ P S' ∧ (b ++ bsR).flatten.Perm (q_W cy x sa ja ta h g q o S').flatten)
    (hR : ∀ sz : Nat, Met l yR wsR rmR (wl_ic D cy (fun _ => True) [moW cy a u] sz [.ref (a 0)]) (va_Qi postR (wl_ib D [moW cy a u] sz) (va_A ([moW cy a u] : List va_W).flatten sz)) 0 0 (va_A ([moW cy a u] : List va_W).flatten sz))
    (hpR : ∀ r b, postR r b → ∃ u', r = b0 ∧ b = [moW cy a u'] ∧ PU u')
    (hfin : ∀ (S' : q_S) (u' : Nat → Nat → Int32), P S' → PU u' → q_I S' u')
    (hrm : rm.frames ≤ 9 ∧ rm.locals ≤ 300 ∧ rm.cells ≤ 8 ∧ rm.slots ≤ 176) (hrR : rmR.frames ≤ 9 ∧ rmR.locals ≤ 300 ∧ rmR.cells = 0 ∧ rmR.slots = 0) (hmc : rm.cells = mc) (hms : rm.slots = ms) : q_OpD l D cy x sa ja ta h g q o a yL wsL yR wsR S u := by
  subst hmc hms
  rw [List.flatten_append] at hp
  refine ⟨b0, P, PU, rm, rmR, hrm, hrR, fun sz => ?_, fun sz => wl_po (hR sz) hpR, hfin⟩
  refine wl_fr (hC sz) hp hX (fun r b hb => ?_)
  obtain ⟨S', e1, e2, e3⟩ := hpC r b hb
  rw [List.flatten_append] at e3
  exact ⟨_, ⟨S', e1, rfl, e2⟩, e3⟩
theorem q_mkE {post : Int32 → Prop} {postR : Int32 → List va_W → Prop} (b0 : Int32) (PU : (Nat → Nat → Int32) → Prop) (bsC bsR : List va_W)
    (hC : Met l yL wsL rm (wl_pc D cy bsC [.ref x]) (vp_Si post) mc ms (fun _ => False))
    (hp : (bsC ++ bsR).flatten.Perm (q_W cy x sa ja ta h g q o S).flatten) (hpC : ∀ r, post r → r = b0)
    (hR : ∀ sz : Nat, Met l yR wsR rmR (wl_ic D cy (fun _ => True) [moW cy a u] sz [.ref (a 0)]) (va_Qi postR (wl_ib D [moW cy a u] sz) (va_A ([moW cy a u] : List va_W).flatten sz)) 0 0 (va_A ([moW cy a u] : List va_W).flatten sz))
    (hpR : ∀ r b, postR r b → ∃ u', r = b0 ∧ b = [moW cy a u'] ∧ PU u') (hfin : ∀ (u' : Nat → Nat → Int32), PU u' → q_I S u')
    (hrm : rm.frames ≤ 9 ∧ rm.locals ≤ 300 ∧ rm.cells ≤ 8 ∧ rm.slots ≤ 176) (hrR : rmR.frames ≤ 9 ∧ rmR.locals ≤ 300 ∧ rmR.cells = 0 ∧ rmR.slots = 0) (hmc : rm.cells = mc) (hms : rm.slots = ms) : q_OpD l D cy x sa ja ta h g q o a yL wsL yR wsR S u := by
  subst hmc hms
  rw [List.flatten_append] at hp
  refine ⟨b0, fun S' => S' = S, PU, rm, rmR, hrm, hrR, fun sz => ?_, fun sz => wl_po (hR sz) hpR, fun S' u' e h => by subst e; exact hfin u' h⟩
  exact wl_po (wl_frr hC hp) (fun r b hb => ⟨S, hpC r hb.1, hb.2, rfl⟩)
end MKD
section OPD
variable {l : Launch} {D : va_G} {cy : Nat → ClassId} {x : Nat} {sa ja ta : Nat → Nat} {h g q o : Nat} {a : Nat → Nat} {u : Nat → Nat → Int32}
variable {L : HsL} {z : Nat} {t w v : Nat → Nat → Int32} {sl : Nat → Option ((Nat → Nat) × (Nat → Nat → Int32))} {f9 : Nat → Int64}
set_option maxHeartbeats 4000000 in
set_option maxRecDepth 100000 in
theorem od_gap (hI : q_I (L, z, t, w, v, sl, f9) u) : q_OpD l D cy x sa ja ta h g q o a yX4_gap wsX4_gap yX5_gap wsX5_gap (L, z, t, w, v, sl, f9) u := by
  obtain ⟨hz, hL, h60, h63, ⟨n, hR⟩, hV, hS, k0, hT⟩ := id hI
  have hz : z ≤ L.length := hz
  have hL : L.length ≤ 6 := hL
  have h60 : u 6 0 = nI z := h60
  have h63 : u 6 3 = -1 := h63
  have hR : q_R n v (u 0) := hR
  have hT : q_T k0 t u := hT
  have hE := q_R_E hR
  have hn49 := q_R_49 hR
  have e63 : su (q_sv (su u 6 2 0) z) 6 3 (-1) = (q_sv (su u 6 2 0) z) := su_same h63
  have hans : q_lc v (q_gt v w n 8) 8 = q_gc (su (q_sv (su u 6 2 0) z) 6 3 (-1)) n 8 := by
    rw [e63]
    exact q_lc_gc (u := (q_sv (su u 6 2 0) z)) (q_R_E (u := (q_sv (su u 6 2 0) z)) hR) h63 8 (by omega)
  refine q_mkD (q_gc (su (q_sv (su u 6 2 0) z) 6 3 (-1)) n 8) (fun S' => ∃ L1 z1, S' = (L1, z1, t, q_gt v w n 8, q_gp v (q_gt v w n 8), sl, f9) ∧ z1 ≤ L1.length ∧ L1.length ≤ 6 ∧ (L1.take z1).map Prod.snd = q_push ((L.take z).map Prod.snd) v) (fun u' => u' = q_gq (q_sv (su u 6 2 0) z) n) [wXB x sa ja ta h q, wHB h g z, wGB cy g (q_rf L), plW cy L, joW cy ja w, stW cy sa v] [txW cy ta t, wQB cy q (slF sl), slW cy (sl 0), slW cy (sl 1), wOB cy o f9] (fun sz => m_X4_gap l D cy x sa ja ta h q g L z w v n sz hz hL hR.2.1 hR.1) (fun _ hU => hU) (wl_perm [0, 1, 2, 3, 6, 4, 5, 7, 8, 9, 10] 11 rfl (by decide) rfl).flatten (fun r b hb => ?_) (fun sz => r_X5_gap l D cy a u n z sz hn49 hR.1 h60 (by omega)) (fun r b hb => ⟨_, hb.1, hb.2, rfl⟩) (fun S' u' e1 e2 => ?_) ⟨Nat.le_of_ble_eq_true rfl, Nat.le_of_ble_eq_true rfl, Nat.le_of_ble_eq_true rfl, Nat.le_of_ble_eq_true rfl⟩ ⟨Nat.le_of_ble_eq_true rfl, Nat.le_of_ble_eq_true rfl, rfl, rfl⟩ rfl rfl
  · obtain ⟨L1, z1, e1, e2, f1, f2, f3⟩ := hb
    subst e2
    exact ⟨_, e1.trans hans, ⟨L1, z1, rfl, f1, f2, f3⟩, (wl_perm [0, 1, 2, 3, 6, 4, 5, 7, 8, 9, 10] 11 rfl (by decide) rfl).flatten⟩
  · obtain ⟨L1, z1, rfl, f1, f2, f3⟩ := e1
    subst e2
    exact q_I_push hI f1 f2 f3 ⟨0, q_R_gap (u := (q_sv (su u 6 2 0) z)) hR h63⟩ ((q_gq_r (by decide)).trans rfl) ((q_gq_r (by decide)).trans rfl) ((q_gq_r (by decide)).trans rfl) ((congrFun (q_gq_r (r := 6) (by decide)) 0).trans rfl) ((congrFun (q_gq_r (r := 6) (by decide)) 3).trans rfl) ⟨k0, q_T_c hT ((congrFun (q_gq_r (r := 6) (by decide)) 1).trans rfl) ((q_gq_r (by decide)).trans rfl)⟩
set_option maxHeartbeats 4000000 in
set_option maxRecDepth 100000 in
theorem od_drop (hI : q_I (L, z, t, w, v, sl, f9) u) : q_OpD l D cy x sa ja ta h g q o a yX4_drop wsX4_drop yX5_drop wsX5_drop (L, z, t, w, v, sl, f9) u := by
  obtain ⟨hz, hL, h60, h63, ⟨n, hR⟩, hV, hS, k0, hT⟩ := id hI
  have hz : z ≤ L.length := hz
  have hL : L.length ≤ 6 := hL
  have h60 : u 6 0 = nI z := h60
  have h63 : u 6 3 = -1 := h63
  have hR : q_R n v (u 0) := hR
  have hT : q_T k0 t u := hT
  have hE := q_R_E hR
  have hn49 := q_R_49 hR
  have hans : v 7 0 = nI n := hR.2.1
  refine q_mkD (nI n) (fun S' => ∃ L1 z1, S' = (L1, z1, t, w, su (su v 7 4 (v 7 4 + v 7 0)) 7 0 0, sl, f9) ∧ z1 ≤ L1.length ∧ L1.length ≤ 6 ∧ (L1.take z1).map Prod.snd = q_push ((L.take z).map Prod.snd) v) (fun u' => u' = q_emf (su (q_sv (su u 6 2 0) z) 0 47 (zv (q_sv (su u 6 2 0) z) 7 4 + nI n))) [wXB x sa ja ta h q, wHB h g z, wGB cy g (q_rf L), plW cy L, stW cy sa v] [txW cy ta t, joW cy ja w, wQB cy q (slF sl), slW cy (sl 0), slW cy (sl 1), wOB cy o f9] (fun sz => m_X4_drop l D cy x sa ja ta h q g L z v sz hz hL) (fun _ hU => hU) (wl_perm [0, 1, 2, 3, 5, 6, 4, 7, 8, 9, 10] 11 rfl (by decide) rfl).flatten (fun r b hb => ?_) (fun sz => r_X5_drop l D cy a u n z sz hn49 hR.1 h60 (by omega)) (fun r b hb => ⟨_, hb.1, hb.2, rfl⟩) (fun S' u' e1 e2 => ?_) ⟨Nat.le_of_ble_eq_true rfl, Nat.le_of_ble_eq_true rfl, Nat.le_of_ble_eq_true rfl, Nat.le_of_ble_eq_true rfl⟩ ⟨Nat.le_of_ble_eq_true rfl, Nat.le_of_ble_eq_true rfl, rfl, rfl⟩ rfl rfl
  · obtain ⟨L1, z1, e1, e2, f1, f2, f3⟩ := hb
    subst e2
    exact ⟨_, e1.trans hans, ⟨L1, z1, rfl, f1, f2, f3⟩, (wl_perm [0, 1, 2, 3, 5, 6, 4, 7, 8, 9, 10] 11 rfl (by decide) rfl).flatten⟩
  · obtain ⟨L1, z1, rfl, f1, f2, f3⟩ := e1
    subst e2
    exact q_I_push hI f1 f2 f3 ⟨0, q_R_emf (u := (q_sv (su u 6 2 0) z)) hR⟩ rfl rfl rfl rfl h63 ⟨k0, q_T_c hT rfl rfl⟩
set_option maxHeartbeats 4000000 in
set_option maxRecDepth 100000 in
theorem od_clearBuffer (hI : q_I (L, z, t, w, v, sl, f9) u) : q_OpD l D cy x sa ja ta h g q o a yX4_clearBuffer wsX4_clearBuffer yX5_clearBuffer wsX5_clearBuffer (L, z, t, w, v, sl, f9) u := by
  obtain ⟨hz, hL, h60, h63, ⟨n, hR⟩, hV, hS, k0, hT⟩ := id hI
  have hz : z ≤ L.length := hz
  have hL : L.length ≤ 6 := hL
  have h60 : u 6 0 = nI z := h60
  have h63 : u 6 3 = -1 := h63
  have hR : q_R n v (u 0) := hR
  have hT : q_T k0 t u := hT
  have hE := q_R_E hR
  have hn49 := q_R_49 hR
  refine q_mkD (u 6 1) (fun S' => S' = (L, z, su t 1 0 0, w, v, sl, f9)) (fun u' => u' = su (su u 6 2 0) 6 1 0) [wXB x sa ja ta h q, txW cy ta t] [wHB h g z, wGB cy g (q_rf L), plW cy L, joW cy ja w, stW cy sa v, wQB cy q (slF sl), slW cy (sl 0), slW cy (sl 1), wOB cy o f9] (fun sz => m_X4_clearBuffer l D cy x sa ja ta h q t sz) (fun _ _ => trivial) (wl_perm [0, 2, 3, 4, 1, 5, 6, 7, 8, 9, 10] 11 rfl (by decide) rfl).flatten (fun r b hb => ?_) (fun sz => r_X5_clearBuffer l D cy a u sz) (fun r b hb => ⟨_, hb.1, hb.2, rfl⟩) (fun S' u' e1 e2 => ?_) ⟨Nat.le_of_ble_eq_true rfl, Nat.le_of_ble_eq_true rfl, Nat.le_of_ble_eq_true rfl, Nat.le_of_ble_eq_true rfl⟩ ⟨Nat.le_of_ble_eq_true rfl, Nat.le_of_ble_eq_true rfl, rfl, rfl⟩ rfl rfl
  · obtain ⟨e1, e2⟩ := hb
    subst e2
    exact ⟨_, e1.trans (hT.2.1.trans hT.2.2.1.symm), rfl, (wl_perm [0, 2, 3, 4, 1, 5, 6, 7, 8, 9, 10] 11 rfl (by decide) rfl).flatten⟩
  · subst e1 e2
    exact q_I_row hI ⟨n, hR⟩ rfl rfl rfl rfl h63 ⟨0, q_T_z rfl rfl⟩
set_option maxHeartbeats 4000000 in
set_option maxRecDepth 100000 in
theorem od_firstError (hI : q_I (L, z, t, w, v, sl, f9) u) : q_OpD l D cy x sa ja ta h g q o a yX4_firstError wsX4_firstError yX5_firstError wsX5_firstError (L, z, t, w, v, sl, f9) u := by
  obtain ⟨hz, hL, h60, h63, ⟨n, hR⟩, hV, hS, k0, hT⟩ := id hI
  have hz : z ≤ L.length := hz
  have hL : L.length ≤ 6 := hL
  have h60 : u 6 0 = nI z := h60
  have h63 : u 6 3 = -1 := h63
  have hR : q_R n v (u 0) := hR
  have hT : q_T k0 t u := hT
  have hE := q_R_E hR
  have hn49 := q_R_49 hR
  have hx := q_T_tv hT
  have hc : ∀ y, y < k0 → vp_nar .char (t 0 y) = t 0 y := fun y hy => (hT.2.2.2 y hy).2
  exact q_mkE (nI (q_ep (tv u) k0)) (fun u' => q_RT (su u 6 2 0) k0 u') [wXB x sa ja ta h q, txW cy ta t] [wHB h g z, wGB cy g (q_rf L), plW cy L, joW cy ja w, stW cy sa v, wQB cy q (slF sl), slW cy (sl 0), slW cy (sl 1), wOB cy o f9] (m_X4_firstError l D cy x sa ja ta h q t k0 hT.2.1 hT.1 hc) (wl_perm [0, 2, 3, 4, 1, 5, 6, 7, 8, 9, 10] 11 rfl (by decide) rfl).flatten (fun r hr => by rw [hr, q_ep_c hx]) (fun sz => r_X5_firstError l D cy a u k0 sz hT.2.2.1 hT.1) (fun r b hb => by obtain ⟨Z, e1, e2, e3⟩ := hb; exact ⟨Z, e1, e2, e3⟩) (fun u' hu => q_I_RT (u := su u 6 2 0) (q_I_th hI) hu) ⟨Nat.le_of_ble_eq_true rfl, Nat.le_of_ble_eq_true rfl, Nat.le_of_ble_eq_true rfl, Nat.le_of_ble_eq_true rfl⟩ ⟨Nat.le_of_ble_eq_true rfl, Nat.le_of_ble_eq_true rfl, rfl, rfl⟩ rfl rfl
set_option maxHeartbeats 4000000 in
set_option maxRecDepth 100000 in
theorem od_brokenAt (hI : q_I (L, z, t, w, v, sl, f9) u) : q_OpD l D cy x sa ja ta h g q o a yX4_brokenAt wsX4_brokenAt yX5_brokenAt wsX5_brokenAt (L, z, t, w, v, sl, f9) u := by
  obtain ⟨hz, hL, h60, h63, ⟨n, hR⟩, hV, hS, k0, hT⟩ := id hI
  have hz : z ≤ L.length := hz
  have hL : L.length ≤ 6 := hL
  have h60 : u 6 0 = nI z := h60
  have h63 : u 6 3 = -1 := h63
  have hR : q_R n v (u 0) := hR
  have hT : q_T k0 t u := hT
  have hE := q_R_E hR
  have hn49 := q_R_49 hR
  exact q_mkE (q_bf (su (su u 6 2 0) 6 3 0) 8) (fun u' => u' = su u 6 2 0) [wXB x sa ja ta h q, stW cy sa v] [wHB h g z, wGB cy g (q_rf L), plW cy L, txW cy ta t, joW cy ja w, wQB cy q (slF sl), slW cy (sl 0), slW cy (sl 1), wOB cy o f9] (m_X4_brokenAt l D cy x sa ja ta h q v) (wl_perm [0, 2, 3, 4, 5, 6, 1, 7, 8, 9, 10] 11 rfl (by decide) rfl).flatten (fun r hr => by rw [hr, q_bf_bk]; exact e_bk hE) (fun sz => m_X5_brokenAt l D cy a u sz h63) (fun r b hb => ⟨_, hb.1, hb.2, rfl⟩) (fun u' hu => by subst hu; exact q_I_th hI) ⟨Nat.le_of_ble_eq_true rfl, Nat.le_of_ble_eq_true rfl, Nat.le_of_ble_eq_true rfl, Nat.le_of_ble_eq_true rfl⟩ ⟨Nat.le_of_ble_eq_true rfl, Nat.le_of_ble_eq_true rfl, rfl, rfl⟩ rfl rfl
set_option maxHeartbeats 4000000 in
set_option maxRecDepth 100000 in
theorem od_brightness (hI : q_I (L, z, t, w, v, sl, f9) u) : ∃ b0 : UInt64, Op.cmpValue (FP.dcmp b0 b0) .l = 0 ∧ (∀ sz : Nat, Met l yX4_brightness wsX4_brightness ({ frames := 3, cells := 0, slots := 0, locals := 68 } : Room) (wl_ic D cy wl_E (q_W cy x sa ja ta h g q o (L, z, t, w, v, sl, f9)) sz [.ref x]) (va_Qd (fun (r : UInt64) (bs : List va_W) => r = b0 ∧ bs = q_W cy x sa ja ta h g q o (L, z, t, w, v, sl, f9)) (wl_ib D (q_W cy x sa ja ta h g q o (L, z, t, w, v, sl, f9)) sz) (va_A (q_W cy x sa ja ta h g q o (L, z, t, w, v, sl, f9)).flatten sz)) 0 0 (va_A (q_W cy x sa ja ta h g q o (L, z, t, w, v, sl, f9)).flatten sz)) ∧
  (∀ sz : Nat, Met l yX5_brightness wsX5_brightness ({ frames := 4, cells := 0, slots := 0, locals := 91 } : Room) (wl_ic D cy (fun _ => True) [moW cy a u] sz [.ref (a 0)]) (va_Qd (fun (r : UInt64) (bs : List va_W) => r = b0 ∧ bs = [moW cy a (su u 6 2 0)]) (wl_ib D [moW cy a u] sz) (va_A ([moW cy a u] : List va_W).flatten sz)) 0 0 (va_A ([moW cy a u] : List va_W).flatten sz)) := by
  obtain ⟨hz, hL, h60, h63, ⟨n, hR⟩, hV, hS, k0, hT⟩ := id hI
  have hz : z ≤ L.length := hz
  have hL : L.length ≤ 6 := hL
  have h60 : u 6 0 = nI z := h60
  have h63 : u 6 3 = -1 := h63
  have hR : q_R n v (u 0) := hR
  have hT : q_T k0 t u := hT
  have hE := q_R_E hR
  have hn49 := q_R_49 hR
  have e1 : q_st v = q_st (zv u) := e_st hE
  obtain ⟨f1, f2, f3⟩ := q_stF (v := v) hR.2.2.2.1
  refine ⟨FP.ddiv (FP.i2d (q_st v)) 4645040803167600640, f2, fun sz => ?_, fun sz => ?_⟩
  · have hp := (wl_perm (bs := [wXB x sa ja ta h q, stW cy sa v] ++ [wHB h g z, wGB cy g (q_rf L), plW cy L, txW cy ta t, joW cy ja w, wQB cy q (slF sl), slW cy (sl 0), slW cy (sl 1), wOB cy o f9]) (bs' := q_W cy x sa ja ta h g q o (L, z, t, w, v, sl, f9)) [0, 2, 3, 4, 5, 6, 1, 7, 8, 9, 10] 11 rfl (by decide) rfl).flatten
    rw [List.flatten_append] at hp
    exact wl_frrd (m_X4_brightness l D cy x sa ja ta h q v f1) hp
  · rw [e1] at f1 ⊢
    exact m_X5_brightness l D cy a u sz (q_R_s hR) f1
set_option maxHeartbeats 4000000 in
set_option maxRecDepth 100000 in
theorem od_digest (hI : q_I (L, z, t, w, v, sl, f9) u) : ∃ (b0 : Int64) (w1 : Nat → Nat → Int32), (∀ sz : Nat, Met l yX4_digest wsX4_digest ({ frames := 5, cells := 0, slots := 0, locals := 120 } : Room) (wl_ic D cy wl_E (q_W cy x sa ja ta h g q o (L, z, t, w, v, sl, f9)) sz [.ref x]) (va_Ql (fun (r : Int64) (bs : List va_W) => r = b0 ∧ bs = q_W cy x sa ja ta h g q o (L, z, t, w1, v, sl, f9)) (wl_ib D (q_W cy x sa ja ta h g q o (L, z, t, w, v, sl, f9)) sz) (va_A (q_W cy x sa ja ta h g q o (L, z, t, w, v, sl, f9)).flatten sz)) 0 0 (va_A (q_W cy x sa ja ta h g q o (L, z, t, w, v, sl, f9)).flatten sz)) ∧
  (∀ sz : Nat, Met l yX5_digest wsX5_digest ({ frames := 7, cells := 0, slots := 0, locals := 159 } : Room) (wl_ic D cy (fun _ => True) [moW cy a u] sz [.ref (a 0)]) (va_Ql (fun (r : Int64) (bs : List va_W) => r = b0 ∧ bs = [moW cy a (su u 6 2 0)]) (wl_ib D [moW cy a u] sz) (va_A ([moW cy a u] : List va_W).flatten sz)) 0 0 (va_A ([moW cy a u] : List va_W).flatten sz)) := by
  obtain ⟨hz, hL, h60, h63, ⟨n, hR⟩, hV, hS, k0, hT⟩ := id hI
  have hz : z ≤ L.length := hz
  have hL : L.length ≤ 6 := hL
  have h60 : u 6 0 = nI z := h60
  have h63 : u 6 3 = -1 := h63
  have hR : q_R n v (u 0) := hR
  have hT : q_T k0 t u := hT
  have hE := q_R_E hR
  have hn49 := q_R_49 hR
  have hc : ∀ y, y < k0 → vp_nar .char (t 0 y) = t 0 y := fun y hy => (hT.2.2.2 y hy).2
  have e1 : q_st v = q_st (zv u) := e_st hE
  obtain ⟨f1, f2, f3⟩ := q_stF (v := v) hR.2.2.2.1
  have hf : ∀ j, j < 2 → (slF sl j = none ↔ su u 6 2 0 3 j = 0) := by
    intro j hj
    show slF sl j = none ↔ u 3 j = 0
    rcases hS j hj with ⟨a1, a2⟩ | ⟨b, y, a1, a2, a3⟩
    · exact ⟨fun _ => a2, fun _ => slF_no a1⟩
    · rw [slF_at a1, a2]
      exact ⟨fun e => by simp at e, fun e => absurd e (by decide)⟩
  have hd := q_di_dim (u := su u 6 2 0) (w := w) (f := slF sl) hE h63 (q_R_44 hR) h60 hf (fun y hy => (hT.2.2.2 y hy).1)
  refine ⟨q_dim (su u 6 2 0) n k0, q_gt v w n 8, fun sz => ?_, fun sz => ?_⟩
  · have hp := (wl_perm (bs := [wXB x sa ja ta h q, joW cy ja w, stW cy sa v, wHB h g z, txW cy ta t, wQB cy q (slF sl)] ++ [wGB cy g (q_rf L), plW cy L, slW cy (sl 0), slW cy (sl 1), wOB cy o f9]) (bs' := q_W cy x sa ja ta h g q o (L, z, t, w, v, sl, f9)) [0, 3, 6, 7, 4, 1, 2, 5, 8, 9, 10] 11 rfl (by decide) rfl).flatten
    have hp1 := (wl_perm (bs := [wXB x sa ja ta h q, joW cy ja (q_gt v w n 8), stW cy sa v, wHB h g z, txW cy ta t, wQB cy q (slF sl)] ++ [wGB cy g (q_rf L), plW cy L, slW cy (sl 0), slW cy (sl 1), wOB cy o f9]) (bs' := q_W cy x sa ja ta h g q o (L, z, t, q_gt v w n 8, v, sl, f9)) [0, 3, 6, 7, 4, 1, 2, 5, 8, 9, 10] 11 rfl (by decide) rfl).flatten
    rw [List.flatten_append] at hp hp1
    refine wl_frl (m_X4_digest l D cy x sa ja ta h q w v t g (slF sl) n z k0 _ sz hR.2.1 hR.1 hT.2.1 hT.1 hc f1 f3) hp (fun _ _ => trivial) (fun r b hb => ?_)
    obtain ⟨e2, e3⟩ := hb
    subst e3
    exact ⟨_, ⟨e2.trans hd, rfl⟩, hp1⟩
  · rw [e1] at f1 f2
    exact r_X5_digest l D cy a u n k0 sz h63 hn49 hR.1 hT.2.2.1 hT.1 (q_R_s hR) f1 f2
end OPD
