/-! ONE CALL, method by method -/
section OPS
variable {l : Launch} {D : va_G} {cy : Nat → ClassId} {x : Nat} {sa ja ta : Nat → Nat} {h g q o : Nat} {a : Nat → Nat} {u : Nat → Nat → Int32}
variable {L : HsL} {z : Nat} {t w v : Nat → Nat → Int32} {sl : Nat → Option ((Nat → Nat) × (Nat → Nat → Int32))} {f9 : Nat → Int64}
set_option maxHeartbeats 4000000 in
set_option maxRecDepth 100000 in
theorem op_mode (hl0 : l.stackTraces = false) (hI : q_I (L, z, t, w, v, sl, f9) u) (y : Int32) (y2 : Int32) : q_Op l D cy x sa ja ta h g q o a [.int y, .int y2] yL_mode wsL_mode yX5_mode wsX5_mode (L, z, t, w, v, sl, f9) u := by
  obtain ⟨hz, hL, h60, h63, ⟨n, hR⟩, hV, hS, k0, hT⟩ := id hI
  have hz : z ≤ L.length := hz
  have hL : L.length ≤ 6 := hL
  have h60 : u 6 0 = nI z := h60
  have h63 : u 6 3 = -1 := h63
  have hR : q_R n v (u 0) := hR
  have hT : q_T k0 t u := hT
  have hE := q_R_E hR
  have hn49 := q_R_49 hR
  rcases q_rng y (A := 0) (B := 7) 0 7 rfl rfl (by omega) (by omega) with hb | ⟨i, -, hi, rfl⟩
  · exact q_mkB (c := 1) hI rfl (by decide) [0, 2, 3, 4, 5, 6, 7, 8, 9, 10, 1] [wXB x sa ja ta h q, wOB cy o f9] [wHB h g z, wGB cy g (q_rf L), plW cy L, txW cy ta t, joW cy ja w, stW cy sa v, wQB cy q (slF sl), slW cy (sl 0), slW cy (sl 1)] (fun sz => b_L_mode1 l hl0 D cy x sa ja ta h q y y2 o f9 sz (q_up 7 rfl rfl (by omega) hb)) (fun sz => r_X5_mode1 l D cy a u y y2 sz hb) rfl (by decide) rfl ⟨Nat.le_of_ble_eq_true rfl, Nat.le_of_ble_eq_true rfl, Nat.le_of_ble_eq_true rfl, Nat.le_of_ble_eq_true rfl⟩ ⟨Nat.le_of_ble_eq_true rfl, Nat.le_of_ble_eq_true rfl, rfl, rfl⟩ rfl rfl
  · rcases q_rng y2 (A := 0) (B := 3) 0 3 rfl rfl (by omega) (by omega) with hb | ⟨k, -, hk, rfl⟩
    · exact q_mkB (c := 2) hI rfl (by decide) [0, 2, 3, 4, 5, 6, 7, 8, 9, 10, 1] [wXB x sa ja ta h q, wOB cy o f9] [wHB h g z, wGB cy g (q_rf L), plW cy L, txW cy ta t, joW cy ja w, stW cy sa v, wQB cy q (slF sl), slW cy (sl 0), slW cy (sl 1)] (fun sz => b_L_mode2 l hl0 D cy x sa ja ta h q i y2 o f9 sz (by omega) hb) (fun sz => r_X5_mode2 l D cy a u i y2 sz (by omega) hb) rfl (by decide) rfl ⟨Nat.le_of_ble_eq_true rfl, Nat.le_of_ble_eq_true rfl, Nat.le_of_ble_eq_true rfl, Nat.le_of_ble_eq_true rfl⟩ ⟨Nat.le_of_ble_eq_true rfl, Nat.le_of_ble_eq_true rfl, rfl, rfl⟩ rfl rfl
    · exact q_mkP (ans := v 0 i) (v1 := su v 0 i (nI k)) (u1 := su (q_sv (su u 6 2 (nI 0)) z) 0 (0 + i) (nI k)) (t1 := t) (w1 := w) hI (hE.1 0 (by omega) i (by omega)) [] [wXB x sa ja ta h q, wHB h g z, wGB cy g (q_rf L), plW cy L, stW cy sa v, wOB cy o f9] [txW cy ta t, joW cy ja w, wQB cy q (slF sl), slW cy (sl 0), slW cy (sl 1)] (fun L1 z1 => [wXB x sa ja ta h q, wHB h g z1, wGB cy g (q_rf L1), plW cy L1, stW cy sa (su v 0 i (nI k)), wOB cy o (vp_updL f9 0 (Int32.toInt64 (v 0 i)))]) (fun sz => m_L_mode l D cy x sa ja ta h q g L z v i k o f9 sz hz hL (by omega) hk) (fun sz => r_X5_mode l D cy a u i k z sz (by omega) hk h60 (by omega)) (wl_perm [0, 1, 2, 3, 6, 7, 4, 8, 9, 10, 5] 11 rfl (by decide) rfl).flatten (fun L1 z1 => (wl_perm [0, 1, 2, 3, 6, 7, 4, 8, 9, 10, 5] 11 rfl (by decide) rfl).flatten) ⟨n, q_R_chg (Or.inl ⟨rfl, rfl, by omega⟩) hR⟩ rfl rfl rfl rfl rfl rfl ⟨k0, q_T_c hT rfl rfl⟩ ⟨Nat.le_of_ble_eq_true rfl, Nat.le_of_ble_eq_true rfl, Nat.le_of_ble_eq_true rfl, Nat.le_of_ble_eq_true rfl⟩ ⟨Nat.le_of_ble_eq_true rfl, Nat.le_of_ble_eq_true rfl, rfl, rfl⟩ rfl rfl
set_option maxHeartbeats 4000000 in
set_option maxRecDepth 100000 in
theorem op_loss (hl0 : l.stackTraces = false) (hI : q_I (L, z, t, w, v, sl, f9) u) (y : Int32) (y2 : Int32) : q_Op l D cy x sa ja ta h g q o a [.int y, .int y2] yL_loss wsL_loss yX5_loss wsX5_loss (L, z, t, w, v, sl, f9) u := by
  obtain ⟨hz, hL, h60, h63, ⟨n, hR⟩, hV, hS, k0, hT⟩ := id hI
  have hz : z ≤ L.length := hz
  have hL : L.length ≤ 6 := hL
  have h60 : u 6 0 = nI z := h60
  have h63 : u 6 3 = -1 := h63
  have hR : q_R n v (u 0) := hR
  have hT : q_T k0 t u := hT
  have hE := q_R_E hR
  have hn49 := q_R_49 hR
  rcases q_rng y (A := 0) (B := 7) 0 7 rfl rfl (by omega) (by omega) with hb | ⟨i, -, hi, rfl⟩
  · exact q_mkB (c := 1) hI rfl (by decide) [0, 2, 3, 4, 5, 6, 7, 8, 9, 10, 1] [wXB x sa ja ta h q, wOB cy o f9] [wHB h g z, wGB cy g (q_rf L), plW cy L, txW cy ta t, joW cy ja w, stW cy sa v, wQB cy q (slF sl), slW cy (sl 0), slW cy (sl 1)] (fun sz => b_L_loss1 l hl0 D cy x sa ja ta h q y y2 o f9 sz (q_up 7 rfl rfl (by omega) hb)) (fun sz => r_X5_loss1 l D cy a u y y2 sz hb) rfl (by decide) rfl ⟨Nat.le_of_ble_eq_true rfl, Nat.le_of_ble_eq_true rfl, Nat.le_of_ble_eq_true rfl, Nat.le_of_ble_eq_true rfl⟩ ⟨Nat.le_of_ble_eq_true rfl, Nat.le_of_ble_eq_true rfl, rfl, rfl⟩ rfl rfl
  · rcases q_rng y2 (A := 0) (B := 6) 0 6 rfl rfl (by omega) (by omega) with hb | ⟨k, -, hk, rfl⟩
    · exact q_mkB (c := 2) hI rfl (by decide) [0, 2, 3, 4, 5, 6, 7, 8, 9, 10, 1] [wXB x sa ja ta h q, wOB cy o f9] [wHB h g z, wGB cy g (q_rf L), plW cy L, txW cy ta t, joW cy ja w, stW cy sa v, wQB cy q (slF sl), slW cy (sl 0), slW cy (sl 1)] (fun sz => b_L_loss2 l hl0 D cy x sa ja ta h q i y2 o f9 sz (by omega) hb) (fun sz => r_X5_loss2 l D cy a u i y2 sz (by omega) hb) rfl (by decide) rfl ⟨Nat.le_of_ble_eq_true rfl, Nat.le_of_ble_eq_true rfl, Nat.le_of_ble_eq_true rfl, Nat.le_of_ble_eq_true rfl⟩ ⟨Nat.le_of_ble_eq_true rfl, Nat.le_of_ble_eq_true rfl, rfl, rfl⟩ rfl rfl
    · exact q_mkP (ans := v 1 i) (v1 := su v 1 i (nI k)) (u1 := su (q_sv (su u 6 2 (nI 0)) z) 0 (8 + i) (nI k)) (t1 := t) (w1 := w) hI (hE.1 1 (by omega) i (by omega)) [] [wXB x sa ja ta h q, wHB h g z, wGB cy g (q_rf L), plW cy L, stW cy sa v, wOB cy o f9] [txW cy ta t, joW cy ja w, wQB cy q (slF sl), slW cy (sl 0), slW cy (sl 1)] (fun L1 z1 => [wXB x sa ja ta h q, wHB h g z1, wGB cy g (q_rf L1), plW cy L1, stW cy sa (su v 1 i (nI k)), wOB cy o (vp_updL f9 0 (Int32.toInt64 (v 1 i)))]) (fun sz => m_L_loss l D cy x sa ja ta h q g L z v i k o f9 sz hz hL (by omega) hk) (fun sz => r_X5_loss l D cy a u i k z sz (by omega) hk h60 (by omega)) (wl_perm [0, 1, 2, 3, 6, 7, 4, 8, 9, 10, 5] 11 rfl (by decide) rfl).flatten (fun L1 z1 => (wl_perm [0, 1, 2, 3, 6, 7, 4, 8, 9, 10, 5] 11 rfl (by decide) rfl).flatten) ⟨n, q_R_chg (Or.inr (Or.inl ⟨rfl, rfl, by omega⟩)) hR⟩ rfl rfl rfl rfl rfl rfl ⟨k0, q_T_c hT rfl rfl⟩ ⟨Nat.le_of_ble_eq_true rfl, Nat.le_of_ble_eq_true rfl, Nat.le_of_ble_eq_true rfl, Nat.le_of_ble_eq_true rfl⟩ ⟨Nat.le_of_ble_eq_true rfl, Nat.le_of_ble_eq_true rfl, rfl, rfl⟩ rfl rfl
set_option maxHeartbeats 4000000 in
set_option maxRecDepth 100000 in
theorem op_set (hl0 : l.stackTraces = false) (hI : q_I (L, z, t, w, v, sl, f9) u) (y : Int32) (y2 : Int32) : q_Op l D cy x sa ja ta h g q o a [.int y, .int y2] yL_set wsL_set yX5_set wsX5_set (L, z, t, w, v, sl, f9) u := by
  obtain ⟨hz, hL, h60, h63, ⟨n, hR⟩, hV, hS, k0, hT⟩ := id hI
  have hz : z ≤ L.length := hz
  have hL : L.length ≤ 6 := hL
  have h60 : u 6 0 = nI z := h60
  have h63 : u 6 3 = -1 := h63
  have hR : q_R n v (u 0) := hR
  have hT : q_T k0 t u := hT
  have hE := q_R_E hR
  have hn49 := q_R_49 hR
  rcases q_rng y (A := 0) (B := 2) 0 2 rfl rfl (by omega) (by omega) with hb | ⟨i, -, hi, rfl⟩
  · exact q_mkB (c := 1) hI rfl (by decide) [0, 2, 3, 4, 5, 6, 7, 8, 9, 10, 1] [wXB x sa ja ta h q, wOB cy o f9] [wHB h g z, wGB cy g (q_rf L), plW cy L, txW cy ta t, joW cy ja w, stW cy sa v, wQB cy q (slF sl), slW cy (sl 0), slW cy (sl 1)] (fun sz => b_L_set1 l hl0 D cy x sa ja ta h q y y2 o f9 sz (q_up 2 rfl rfl (by omega) hb)) (fun sz => r_X5_set1 l D cy a u y y2 sz hb) rfl (by decide) rfl ⟨Nat.le_of_ble_eq_true rfl, Nat.le_of_ble_eq_true rfl, Nat.le_of_ble_eq_true rfl, Nat.le_of_ble_eq_true rfl⟩ ⟨Nat.le_of_ble_eq_true rfl, Nat.le_of_ble_eq_true rfl, rfl, rfl⟩ rfl rfl
  · have hlo := q_lo3_le i
    have hhi := q_hi3_le i
    rcases q_rng y2 (A := nI (q_lo3 i)) (B := nI (q_hi3 i)) (q_lo3 i) (q_hi3 i) rfl rfl (by omega) (by omega) with hb | ⟨k, hk1, hk, rfl⟩
    · exact q_mkB (c := 2) hI rfl (by decide) [0, 2, 3, 4, 5, 6, 7, 8, 9, 10, 1] [wXB x sa ja ta h q, wOB cy o f9] [wHB h g z, wGB cy g (q_rf L), plW cy L, txW cy ta t, joW cy ja w, stW cy sa v, wQB cy q (slF sl), slW cy (sl 0), slW cy (sl 1)] (fun sz => b_L_set2 l hl0 D cy x sa ja ta h q i y2 o f9 sz (by omega) hb) (fun sz => r_X5_set2 l D cy a u i y2 sz (by omega) hb) rfl (by decide) rfl ⟨Nat.le_of_ble_eq_true rfl, Nat.le_of_ble_eq_true rfl, Nat.le_of_ble_eq_true rfl, Nat.le_of_ble_eq_true rfl⟩ ⟨Nat.le_of_ble_eq_true rfl, Nat.le_of_ble_eq_true rfl, rfl, rfl⟩ rfl rfl
    · exact q_mkP (ans := v 5 i) (v1 := su v 5 i (nI k)) (u1 := su (q_sv (su u 6 2 (nI 0)) z) 0 (40 + i) (nI k)) (t1 := t) (w1 := w) hI (hE.2.1 i (by omega)) [] [wXB x sa ja ta h q, wHB h g z, wGB cy g (q_rf L), plW cy L, stW cy sa v, wOB cy o f9] [txW cy ta t, joW cy ja w, wQB cy q (slF sl), slW cy (sl 0), slW cy (sl 1)] (fun L1 z1 => [wXB x sa ja ta h q, wHB h g z1, wGB cy g (q_rf L1), plW cy L1, stW cy sa (su v 5 i (nI k)), wOB cy o (vp_updL f9 0 (Int32.toInt64 (v 5 i)))]) (fun sz => m_L_set l D cy x sa ja ta h q g L z v i k o f9 sz hz hL (by omega) ⟨hk1, hk⟩) (fun sz => r_X5_set l D cy a u i k z sz (by omega) ⟨hk1, hk⟩ h60 (by omega)) (wl_perm [0, 1, 2, 3, 6, 7, 4, 8, 9, 10, 5] 11 rfl (by decide) rfl).flatten (fun L1 z1 => (wl_perm [0, 1, 2, 3, 6, 7, 4, 8, 9, 10, 5] 11 rfl (by decide) rfl).flatten) ⟨n, q_R_chg (Or.inr (Or.inr ⟨rfl, rfl, by omega, nI_pos (by omega)⟩)) hR⟩ rfl rfl rfl rfl rfl rfl ⟨k0, q_T_c hT rfl rfl⟩ ⟨Nat.le_of_ble_eq_true rfl, Nat.le_of_ble_eq_true rfl, Nat.le_of_ble_eq_true rfl, Nat.le_of_ble_eq_true rfl⟩ ⟨Nat.le_of_ble_eq_true rfl, Nat.le_of_ble_eq_true rfl, rfl, rfl⟩ rfl rfl
set_option maxHeartbeats 4000000 in
set_option maxRecDepth 100000 in
theorem op_pulse (hl0 : l.stackTraces = false) (hI : q_I (L, z, t, w, v, sl, f9) u) (y : Int32) : q_Op l D cy x sa ja ta h g q o a [.int y] yL_pulse wsL_pulse yX5_pulse wsX5_pulse (L, z, t, w, v, sl, f9) u := by
  obtain ⟨hz, hL, h60, h63, ⟨n, hR⟩, hV, hS, k0, hT⟩ := id hI
  have hz : z ≤ L.length := hz
  have hL : L.length ≤ 6 := hL
  have h60 : u 6 0 = nI z := h60
  have h63 : u 6 3 = -1 := h63
  have hR : q_R n v (u 0) := hR
  have hT : q_T k0 t u := hT
  have hE := q_R_E hR
  have hn49 := q_R_49 hR
  rcases q_rng y (A := 1) (B := 20) 1 20 rfl rfl (by omega) (by omega) with hb | ⟨i, hi1, hi, rfl⟩
  · exact q_mkB (c := 1) hI rfl (by decide) [0, 2, 3, 4, 5, 6, 7, 8, 9, 10, 1] [wXB x sa ja ta h q, wOB cy o f9] [wHB h g z, wGB cy g (q_rf L), plW cy L, txW cy ta t, joW cy ja w, stW cy sa v, wQB cy q (slF sl), slW cy (sl 0), slW cy (sl 1)] (fun sz => b_L_pulse1 l hl0 D cy x sa ja ta h q y o f9 sz hb) (fun sz => r_X5_pulse1 l D cy a u y sz hb) rfl (by decide) rfl ⟨Nat.le_of_ble_eq_true rfl, Nat.le_of_ble_eq_true rfl, Nat.le_of_ble_eq_true rfl, Nat.le_of_ble_eq_true rfl⟩ ⟨Nat.le_of_ble_eq_true rfl, Nat.le_of_ble_eq_true rfl, rfl, rfl⟩ rfl rfl
  · rcases Nat.lt_or_ge n 120 with hn | hn
    · exact q_mkP (ans := nI (n + 1)) (v1 := su (su v 6 n (nI i)) 7 0 (nI (n + 1))) (u1 := q_ap (q_sv (su u 6 2 (nI 0)) z) n (nI i)) (t1 := t) (w1 := w) hI (rfl) [] [wXB x sa ja ta h q, wHB h g z, wGB cy g (q_rf L), plW cy L, stW cy sa v, wOB cy o f9] [txW cy ta t, joW cy ja w, wQB cy q (slF sl), slW cy (sl 0), slW cy (sl 1)] (fun L1 z1 => [wXB x sa ja ta h q, wHB h g z1, wGB cy g (q_rf L1), plW cy L1, stW cy sa (su (su v 6 n (nI i)) 7 0 (nI (n + 1))), wOB cy o (vp_updL f9 0 (Int32.toInt64 (nI (n + 1))))]) (fun sz => m_L_pulse l D cy x sa ja ta h q g L z v i n o f9 sz hz hL ⟨hi1, hi⟩ hR.2.1 hn) (fun sz => r_X5_pulse l D cy a u i n z sz ⟨hi1, hi⟩ hn49 hn h60 (by omega)) (wl_perm [0, 1, 2, 3, 6, 7, 4, 8, 9, 10, 5] 11 rfl (by decide) rfl).flatten (fun L1 z1 => (wl_perm [0, 1, 2, 3, 6, 7, 4, 8, 9, 10, 5] 11 rfl (by decide) rfl).flatten) ⟨n + 1, q_R_ap (u := (q_sv (su u 6 2 (nI 0)) z)) hn hR⟩ rfl rfl rfl rfl rfl rfl ⟨k0, q_T_c hT rfl rfl⟩ ⟨Nat.le_of_ble_eq_true rfl, Nat.le_of_ble_eq_true rfl, Nat.le_of_ble_eq_true rfl, Nat.le_of_ble_eq_true rfl⟩ ⟨Nat.le_of_ble_eq_true rfl, Nat.le_of_ble_eq_true rfl, rfl, rfl⟩ rfl rfl
    · obtain rfl : n = 120 := by have := hR.1; omega
      exact q_mkP (ans := -1) (v1 := q_rfu v) (u1 := su (q_sv (su u 6 2 (nI 0)) z) 0 48 (zv (q_sv (su u 6 2 (nI 0)) z) 7 5 + 1)) (t1 := t) (w1 := w) hI (rfl) [] [wXB x sa ja ta h q, wHB h g z, wGB cy g (q_rf L), plW cy L, stW cy sa v, wOB cy o f9] [txW cy ta t, joW cy ja w, wQB cy q (slF sl), slW cy (sl 0), slW cy (sl 1)] (fun L1 z1 => [wXB x sa ja ta h q, wHB h g z1, wGB cy g (q_rf L1), plW cy L1, stW cy sa (q_rfu v), wOB cy o (vp_updL f9 0 (Int32.toInt64 (-1)))]) (fun sz => m_L_pulseF l D cy x sa ja ta h q g L z v i o f9 sz hz hL ⟨hi1, hi⟩ hR.2.1) (fun sz => r_X5_pulseF l D cy a u i z sz ⟨hi1, hi⟩ hn49 h60 (by omega)) (wl_perm [0, 1, 2, 3, 6, 7, 4, 8, 9, 10, 5] 11 rfl (by decide) rfl).flatten (fun L1 z1 => (wl_perm [0, 1, 2, 3, 6, 7, 4, 8, 9, 10, 5] 11 rfl (by decide) rfl).flatten) ⟨120, q_R_rfu (u := (q_sv (su u 6 2 (nI 0)) z)) hR⟩ rfl rfl rfl rfl rfl rfl ⟨k0, q_T_c hT rfl rfl⟩ ⟨Nat.le_of_ble_eq_true rfl, Nat.le_of_ble_eq_true rfl, Nat.le_of_ble_eq_true rfl, Nat.le_of_ble_eq_true rfl⟩ ⟨Nat.le_of_ble_eq_true rfl, Nat.le_of_ble_eq_true rfl, rfl, rfl⟩ rfl rfl
set_option maxHeartbeats 4000000 in
set_option maxRecDepth 100000 in
theorem op_send (hl0 : l.stackTraces = false) (hI : q_I (L, z, t, w, v, sl, f9) u) (y : Int32) : q_Op l D cy x sa ja ta h g q o a [.int y] yL_send wsL_send yX5_send wsX5_send (L, z, t, w, v, sl, f9) u := by
  obtain ⟨hz, hL, h60, h63, ⟨n, hR⟩, hV, hS, k0, hT⟩ := id hI
  have hz : z ≤ L.length := hz
  have hL : L.length ≤ 6 := hL
  have h60 : u 6 0 = nI z := h60
  have h63 : u 6 3 = -1 := h63
  have hR : q_R n v (u 0) := hR
  have hT : q_T k0 t u := hT
  have hE := q_R_E hR
  have hn49 := q_R_49 hR
  rcases q_rng y (A := 0) (B := 4095) 0 4095 rfl rfl (by omega) (by omega) with hb | ⟨i, -, hi, rfl⟩
  · exact q_mkB (c := 1) hI rfl (by decide) [0, 2, 3, 4, 5, 6, 7, 8, 9, 10, 1] [wXB x sa ja ta h q, wOB cy o f9] [wHB h g z, wGB cy g (q_rf L), plW cy L, txW cy ta t, joW cy ja w, stW cy sa v, wQB cy q (slF sl), slW cy (sl 0), slW cy (sl 1)] (fun sz => b_L_send1 l hl0 D cy x sa ja ta h q y o f9 sz hb) (fun sz => r_X5_send1 l D cy a u y sz hb) rfl (by decide) rfl ⟨Nat.le_of_ble_eq_true rfl, Nat.le_of_ble_eq_true rfl, Nat.le_of_ble_eq_true rfl, Nat.le_of_ble_eq_true rfl⟩ ⟨Nat.le_of_ble_eq_true rfl, Nat.le_of_ble_eq_true rfl, rfl, rfl⟩ rfl rfl
  · by_cases hn : n + 12 ≤ 120
    · exact q_mkP (ans := nI (n + 12)) (v1 := q_aw (nI i) n v 12) (u1 := q_sn (q_sv (su u 6 2 (nI 0)) z) n (nI i) 12) (t1 := t) (w1 := w) hI (rfl) [] [wXB x sa ja ta h q, wHB h g z, wGB cy g (q_rf L), plW cy L, stW cy sa v, wOB cy o f9] [txW cy ta t, joW cy ja w, wQB cy q (slF sl), slW cy (sl 0), slW cy (sl 1)] (fun L1 z1 => [wXB x sa ja ta h q, wHB h g z1, wGB cy g (q_rf L1), plW cy L1, stW cy sa (q_aw (nI i) n v 12), wOB cy o (vp_updL f9 0 (Int32.toInt64 (nI (n + 12))))]) (fun sz => m_L_send l D cy x sa ja ta h q g L z v i n o f9 sz hz hL hi hR.2.1 hn) (fun sz => r_X5_send l D cy a u i n z sz hi hn49 hn h60 (by omega)) (wl_perm [0, 1, 2, 3, 6, 7, 4, 8, 9, 10, 5] 11 rfl (by decide) rfl).flatten (fun L1 z1 => (wl_perm [0, 1, 2, 3, 6, 7, 4, 8, 9, 10, 5] 11 rfl (by decide) rfl).flatten) ⟨n + 12, q_R_sn (u := (q_sv (su u 6 2 (nI 0)) z)) hR 12 hn⟩ ((q_sn_r (by decide) 12).trans rfl) ((q_sn_r (by decide) 12).trans rfl) ((q_sn_r (by decide) 12).trans rfl) ((congrFun (q_sn_r (r := 6) (by decide) 12) 0).trans rfl) ((congrFun (q_sn_r (r := 6) (by decide) 12) 2).trans rfl) ((congrFun (q_sn_r (r := 6) (by decide) 12) 3).trans rfl) ⟨k0, q_T_c hT ((congrFun (q_sn_r (r := 6) (by decide) 12) 1).trans rfl) ((q_sn_r (r := 4) (by decide) 12).trans rfl)⟩ ⟨Nat.le_of_ble_eq_true rfl, Nat.le_of_ble_eq_true rfl, Nat.le_of_ble_eq_true rfl, Nat.le_of_ble_eq_true rfl⟩ ⟨Nat.le_of_ble_eq_true rfl, Nat.le_of_ble_eq_true rfl, rfl, rfl⟩ rfl rfl
    · exact q_mkP (ans := -1) (v1 := q_rfu v) (u1 := su (q_sv (su u 6 2 (nI 0)) z) 0 48 (zv (q_sv (su u 6 2 (nI 0)) z) 7 5 + 1)) (t1 := t) (w1 := w) hI (rfl) [] [wXB x sa ja ta h q, wHB h g z, wGB cy g (q_rf L), plW cy L, stW cy sa v, wOB cy o f9] [txW cy ta t, joW cy ja w, wQB cy q (slF sl), slW cy (sl 0), slW cy (sl 1)] (fun L1 z1 => [wXB x sa ja ta h q, wHB h g z1, wGB cy g (q_rf L1), plW cy L1, stW cy sa (q_rfu v), wOB cy o (vp_updL f9 0 (Int32.toInt64 (-1)))]) (fun sz => m_L_sendF l D cy x sa ja ta h q g L z v i n o f9 sz hz hL hi hR.2.1 hR.1 hn) (fun sz => r_X5_sendF l D cy a u i n z sz hi hn hn49 hR.1 h60 (by omega)) (wl_perm [0, 1, 2, 3, 6, 7, 4, 8, 9, 10, 5] 11 rfl (by decide) rfl).flatten (fun L1 z1 => (wl_perm [0, 1, 2, 3, 6, 7, 4, 8, 9, 10, 5] 11 rfl (by decide) rfl).flatten) ⟨n, q_R_rfu (u := (q_sv (su u 6 2 (nI 0)) z)) hR⟩ rfl rfl rfl rfl rfl rfl ⟨k0, q_T_c hT rfl rfl⟩ ⟨Nat.le_of_ble_eq_true rfl, Nat.le_of_ble_eq_true rfl, Nat.le_of_ble_eq_true rfl, Nat.le_of_ble_eq_true rfl⟩ ⟨Nat.le_of_ble_eq_true rfl, Nat.le_of_ble_eq_true rfl, rfl, rfl⟩ rfl rfl
set_option maxHeartbeats 4000000 in
set_option maxRecDepth 100000 in
theorem op_lampOf (hl0 : l.stackTraces = false) (hI : q_I (L, z, t, w, v, sl, f9) u) (y : Int32) (y2 : Int32) : q_Op l D cy x sa ja ta h g q o a [.int y, .int y2] yL_lampOf wsL_lampOf yX5_lampOf wsX5_lampOf (L, z, t, w, v, sl, f9) u := by
  obtain ⟨hz, hL, h60, h63, ⟨n, hR⟩, hV, hS, k0, hT⟩ := id hI
  have hz : z ≤ L.length := hz
  have hL : L.length ≤ 6 := hL
  have h60 : u 6 0 = nI z := h60
  have h63 : u 6 3 = -1 := h63
  have hR : q_R n v (u 0) := hR
  have hT : q_T k0 t u := hT
  have hE := q_R_E hR
  have hn49 := q_R_49 hR
  rcases q_rng y (A := 0) (B := 7) 0 7 rfl rfl (by omega) (by omega) with hb | ⟨i, -, hi, rfl⟩
  · exact q_mkB (c := 1) hI rfl (by decide) [0, 2, 3, 4, 5, 6, 7, 8, 9, 10, 1] [wXB x sa ja ta h q, wOB cy o f9] [wHB h g z, wGB cy g (q_rf L), plW cy L, txW cy ta t, joW cy ja w, stW cy sa v, wQB cy q (slF sl), slW cy (sl 0), slW cy (sl 1)] (fun sz => b_L_lampOf1 l hl0 D cy x sa ja ta h q y y2 o f9 sz (q_up 7 rfl rfl (by omega) hb)) (fun sz => r_X5_lampOf1 l D cy a u y y2 sz hb) rfl (by decide) rfl ⟨Nat.le_of_ble_eq_true rfl, Nat.le_of_ble_eq_true rfl, Nat.le_of_ble_eq_true rfl, Nat.le_of_ble_eq_true rfl⟩ ⟨Nat.le_of_ble_eq_true rfl, Nat.le_of_ble_eq_true rfl, rfl, rfl⟩ rfl rfl
  · rcases q_rng y2 (A := 0) (B := 7) 0 7 rfl rfl (by omega) (by omega) with hb | ⟨k, -, hk, rfl⟩
    · exact q_mkB (c := 2) hI rfl (by decide) [0, 2, 3, 4, 5, 6, 7, 8, 9, 10, 1] [wXB x sa ja ta h q, wOB cy o f9] [wHB h g z, wGB cy g (q_rf L), plW cy L, txW cy ta t, joW cy ja w, stW cy sa v, wQB cy q (slF sl), slW cy (sl 0), slW cy (sl 1)] (fun sz => b_L_lampOf2 l hl0 D cy x sa ja ta h q i y2 o f9 sz (by omega) hb) (fun sz => r_X5_lampOf2 l D cy a u i y2 sz (by omega) hb) rfl (by decide) rfl ⟨Nat.le_of_ble_eq_true rfl, Nat.le_of_ble_eq_true rfl, Nat.le_of_ble_eq_true rfl, Nat.le_of_ble_eq_true rfl⟩ ⟨Nat.le_of_ble_eq_true rfl, Nat.le_of_ble_eq_true rfl, rfl, rfl⟩ rfl rfl
    · exact q_mkR (ans := q_lo v i k) (w1 := w) hI (e_lo hE (by omega)) [0, 3, 4, 5, 6, 7, 1, 8, 9, 10, 2] [wXB x sa ja ta h q, stW cy sa v, wOB cy o f9] [wHB h g z, wGB cy g (q_rf L), plW cy L, txW cy ta t, joW cy ja w, wQB cy q (slF sl), slW cy (sl 0), slW cy (sl 1)] (fun sz => m_L_lampOf l D cy x sa ja ta h q v i k o f9 sz (by omega) (by omega)) (fun sz => r_X5_lampOf l D cy a u i k sz (by omega) (by omega) (q_R_s hR)) rfl (by decide) rfl rfl rfl ⟨Nat.le_of_ble_eq_true rfl, Nat.le_of_ble_eq_true rfl, Nat.le_of_ble_eq_true rfl, Nat.le_of_ble_eq_true rfl⟩ ⟨Nat.le_of_ble_eq_true rfl, Nat.le_of_ble_eq_true rfl, rfl, rfl⟩ rfl rfl
set_option maxHeartbeats 4000000 in
set_option maxRecDepth 100000 in
theorem op_pulseAt (hl0 : l.stackTraces = false) (hI : q_I (L, z, t, w, v, sl, f9) u) (y : Int32) : q_Op l D cy x sa ja ta h g q o a [.int y] yL_pulseAt wsL_pulseAt yX5_pulseAt wsX5_pulseAt (L, z, t, w, v, sl, f9) u := by
  obtain ⟨hz, hL, h60, h63, ⟨n, hR⟩, hV, hS, k0, hT⟩ := id hI
  have hz : z ≤ L.length := hz
  have hL : L.length ≤ 6 := hL
  have h60 : u 6 0 = nI z := h60
  have h63 : u 6 3 = -1 := h63
  have hR : q_R n v (u 0) := hR
  have hT : q_T k0 t u := hT
  have hE := q_R_E hR
  have hn49 := q_R_49 hR
  by_cases hb : y < 0
  · exact q_mkB (c := 1) hI rfl (by decide) [0, 2, 3, 4, 5, 6, 7, 8, 9, 10, 1] [wXB x sa ja ta h q, wOB cy o f9] [wHB h g z, wGB cy g (q_rf L), plW cy L, txW cy ta t, joW cy ja w, stW cy sa v, wQB cy q (slF sl), slW cy (sl 0), slW cy (sl 1)] (fun sz => b_L_pulseAt1 l hl0 D cy x sa ja ta h q y o f9 sz hb) (fun sz => r_X5_pulseAt1 l D cy a u y sz hb) rfl (by decide) rfl ⟨Nat.le_of_ble_eq_true rfl, Nat.le_of_ble_eq_true rfl, Nat.le_of_ble_eq_true rfl, Nat.le_of_ble_eq_true rfl⟩ ⟨Nat.le_of_ble_eq_true rfl, Nat.le_of_ble_eq_true rfl, rfl, rfl⟩ rfl rfl
  · obtain ⟨i, hi, rfl⟩ := nI_of hb
    have hans : (if i < n then v 6 i else -1 : Int32) = (if i < n then zv u 6 i else -1) := by
      by_cases hin : i < n
      · rw [if_pos hin, if_pos hin]
        exact hE.2.2.1 i hin
      · rw [if_neg hin, if_neg hin]
    exact q_mkR (ans := if i < n then v 6 i else -1) (w1 := w) hI (hans) [0, 3, 4, 5, 6, 7, 1, 8, 9, 10, 2] [wXB x sa ja ta h q, stW cy sa v, wOB cy o f9] [wHB h g z, wGB cy g (q_rf L), plW cy L, txW cy ta t, joW cy ja w, wQB cy q (slF sl), slW cy (sl 0), slW cy (sl 1)] (fun sz => m_L_pulseAt l D cy x sa ja ta h q v i n o f9 sz hi hR.2.1 hR.1) (fun sz => r_X5_pulseAt l D cy a u i n sz hi hn49 hR.1) rfl (by decide) rfl rfl rfl ⟨Nat.le_of_ble_eq_true rfl, Nat.le_of_ble_eq_true rfl, Nat.le_of_ble_eq_true rfl, Nat.le_of_ble_eq_true rfl⟩ ⟨Nat.le_of_ble_eq_true rfl, Nat.le_of_ble_eq_true rfl, rfl, rfl⟩ rfl rfl
set_option maxHeartbeats 4000000 in
set_option maxRecDepth 100000 in
theorem op_count (hl0 : l.stackTraces = false) (hI : q_I (L, z, t, w, v, sl, f9) u) (y : Int32) : q_Op l D cy x sa ja ta h g q o a [.int y] yL_count wsL_count yX5_count wsX5_count (L, z, t, w, v, sl, f9) u := by
  obtain ⟨hz, hL, h60, h63, ⟨n, hR⟩, hV, hS, k0, hT⟩ := id hI
  have hz : z ≤ L.length := hz
  have hL : L.length ≤ 6 := hL
  have h60 : u 6 0 = nI z := h60
  have h63 : u 6 3 = -1 := h63
  have hR : q_R n v (u 0) := hR
  have hT : q_T k0 t u := hT
  have hE := q_R_E hR
  have hn49 := q_R_49 hR
  rcases q_rng y (A := 0) (B := 10) 0 10 rfl rfl (by omega) (by omega) with hb | ⟨k, -, hk, rfl⟩
  · exact q_mkB (c := 1) hI rfl (by decide) [0, 2, 3, 4, 5, 6, 7, 8, 9, 10, 1] [wXB x sa ja ta h q, wOB cy o f9] [wHB h g z, wGB cy g (q_rf L), plW cy L, txW cy ta t, joW cy ja w, stW cy sa v, wQB cy q (slF sl), slW cy (sl 0), slW cy (sl 1)] (fun sz => b_L_count1 l hl0 D cy x sa ja ta h q y o f9 sz hb) (fun sz => r_X5_count1 l D cy a u y sz hb) rfl (by decide) rfl ⟨Nat.le_of_ble_eq_true rfl, Nat.le_of_ble_eq_true rfl, Nat.le_of_ble_eq_true rfl, Nat.le_of_ble_eq_true rfl⟩ ⟨Nat.le_of_ble_eq_true rfl, Nat.le_of_ble_eq_true rfl, rfl, rfl⟩ rfl rfl
  · have hans : q_co v z k = q_nm u k := by
      rw [q_nm_co (q_R_44 hR) h60 (by omega), e_co hE]
    exact q_mkR (ans := q_co v z k) (w1 := w) hI (hans) [0, 2, 4, 5, 6, 7, 1, 8, 9, 10, 3] [wXB x sa ja ta h q, stW cy sa v, wHB h g z, wOB cy o f9] [wGB cy g (q_rf L), plW cy L, txW cy ta t, joW cy ja w, wQB cy q (slF sl), slW cy (sl 0), slW cy (sl 1)] (fun sz => m_L_count l D cy x sa ja ta h q v z k g o f9 sz (by omega)) (fun sz => r_X5_count l D cy a u k sz (by omega) (q_R_s hR)) rfl (by decide) rfl rfl rfl ⟨Nat.le_of_ble_eq_true rfl, Nat.le_of_ble_eq_true rfl, Nat.le_of_ble_eq_true rfl, Nat.le_of_ble_eq_true rfl⟩ ⟨Nat.le_of_ble_eq_true rfl, Nat.le_of_ble_eq_true rfl, rfl, rfl⟩ rfl rfl
set_option maxHeartbeats 4000000 in
set_option maxRecDepth 100000 in
theorem op_setting (hl0 : l.stackTraces = false) (hI : q_I (L, z, t, w, v, sl, f9) u) (y : Int32) : q_Op l D cy x sa ja ta h g q o a [.int y] yL_setting wsL_setting yX5_setting wsX5_setting (L, z, t, w, v, sl, f9) u := by
  obtain ⟨hz, hL, h60, h63, ⟨n, hR⟩, hV, hS, k0, hT⟩ := id hI
  have hz : z ≤ L.length := hz
  have hL : L.length ≤ 6 := hL
  have h60 : u 6 0 = nI z := h60
  have h63 : u 6 3 = -1 := h63
  have hR : q_R n v (u 0) := hR
  have hT : q_T k0 t u := hT
  have hE := q_R_E hR
  have hn49 := q_R_49 hR
  rcases q_rng y (A := 0) (B := 2) 0 2 rfl rfl (by omega) (by omega) with hb | ⟨i, -, hi, rfl⟩
  · exact q_mkB (c := 1) hI rfl (by decide) [0, 2, 3, 4, 5, 6, 7, 8, 9, 10, 1] [wXB x sa ja ta h q, wOB cy o f9] [wHB h g z, wGB cy g (q_rf L), plW cy L, txW cy ta t, joW cy ja w, stW cy sa v, wQB cy q (slF sl), slW cy (sl 0), slW cy (sl 1)] (fun sz => b_L_setting1 l hl0 D cy x sa ja ta h q y o f9 sz (q_up 2 rfl rfl (by omega) hb)) (fun sz => r_X5_setting1 l D cy a u y sz hb) rfl (by decide) rfl ⟨Nat.le_of_ble_eq_true rfl, Nat.le_of_ble_eq_true rfl, Nat.le_of_ble_eq_true rfl, Nat.le_of_ble_eq_true rfl⟩ ⟨Nat.le_of_ble_eq_true rfl, Nat.le_of_ble_eq_true rfl, rfl, rfl⟩ rfl rfl
  · exact q_mkR (ans := v 5 i) (w1 := w) hI (hE.2.1 i (by omega)) [0, 3, 4, 5, 6, 7, 1, 8, 9, 10, 2] [wXB x sa ja ta h q, stW cy sa v, wOB cy o f9] [wHB h g z, wGB cy g (q_rf L), plW cy L, txW cy ta t, joW cy ja w, wQB cy q (slF sl), slW cy (sl 0), slW cy (sl 1)] (fun sz => m_L_setting l D cy x sa ja ta h q v i o f9 sz (by omega)) (fun sz => r_X5_setting l D cy a u i sz (by omega)) rfl (by decide) rfl rfl rfl ⟨Nat.le_of_ble_eq_true rfl, Nat.le_of_ble_eq_true rfl, Nat.le_of_ble_eq_true rfl, Nat.le_of_ble_eq_true rfl⟩ ⟨Nat.le_of_ble_eq_true rfl, Nat.le_of_ble_eq_true rfl, rfl, rfl⟩ rfl rfl
set_option maxHeartbeats 4000000 in
set_option maxRecDepth 100000 in
theorem op_ifGap (hl0 : l.stackTraces = false) (hI : q_I (L, z, t, w, v, sl, f9) u) (y : Int32) (y2 : Int32) : q_Op l D cy x sa ja ta h g q o a [.int y, .int y2] yL_ifGap wsL_ifGap yX5_ifGap wsX5_ifGap (L, z, t, w, v, sl, f9) u := by
  obtain ⟨hz, hL, h60, h63, ⟨n, hR⟩, hV, hS, k0, hT⟩ := id hI
  have hz : z ≤ L.length := hz
  have hL : L.length ≤ 6 := hL
  have h60 : u 6 0 = nI z := h60
  have h63 : u 6 3 = -1 := h63
  have hR : q_R n v (u 0) := hR
  have hT : q_T k0 t u := hT
  have hE := q_R_E hR
  have hn49 := q_R_49 hR
  rcases q_rng y (A := 0) (B := 7) 0 7 rfl rfl (by omega) (by omega) with hb | ⟨i, -, hi, rfl⟩
  · exact q_mkB (c := 1) hI rfl (by decide) [0, 2, 3, 4, 5, 6, 7, 8, 9, 10, 1] [wXB x sa ja ta h q, wOB cy o f9] [wHB h g z, wGB cy g (q_rf L), plW cy L, txW cy ta t, joW cy ja w, stW cy sa v, wQB cy q (slF sl), slW cy (sl 0), slW cy (sl 1)] (fun sz => b_L_ifGap1 l hl0 D cy x sa ja ta h q y y2 o f9 sz (q_up 7 rfl rfl (by omega) hb)) (fun sz => r_X5_ifGap1 l D cy a u y y2 sz hb) rfl (by decide) rfl ⟨Nat.le_of_ble_eq_true rfl, Nat.le_of_ble_eq_true rfl, Nat.le_of_ble_eq_true rfl, Nat.le_of_ble_eq_true rfl⟩ ⟨Nat.le_of_ble_eq_true rfl, Nat.le_of_ble_eq_true rfl, rfl, rfl⟩ rfl rfl
  · rcases q_rng y2 (A := 0) (B := 1) 0 1 rfl rfl (by omega) (by omega) with hb | ⟨k, -, hk, rfl⟩
    · exact q_mkB (c := 2) hI rfl (by decide) [0, 2, 3, 4, 5, 6, 7, 8, 9, 10, 1] [wXB x sa ja ta h q, wOB cy o f9] [wHB h g z, wGB cy g (q_rf L), plW cy L, txW cy ta t, joW cy ja w, stW cy sa v, wQB cy q (slF sl), slW cy (sl 0), slW cy (sl 1)] (fun sz => b_L_ifGap2 l hl0 D cy x sa ja ta h q i y2 o f9 sz (by omega) hb) (fun sz => r_X5_ifGap2 l D cy a u i y2 sz (by omega) hb) rfl (by decide) rfl ⟨Nat.le_of_ble_eq_true rfl, Nat.le_of_ble_eq_true rfl, Nat.le_of_ble_eq_true rfl, Nat.le_of_ble_eq_true rfl⟩ ⟨Nat.le_of_ble_eq_true rfl, Nat.le_of_ble_eq_true rfl, rfl, rfl⟩ rfl rfl
    · have e63 : su (su u 6 2 (nI 0)) 6 3 (-1) = su u 6 2 (nI 0) := su_same h63
      have e9 : q_wb (su (su u 6 2 (nI 0)) 6 3 (-1)) n i = q_wbp v i n := by
        rw [e63, q_wb_wbp (u := su u 6 2 (nI 0)) h63]
        exact (e_wbp hE (by omega)).symm
      rcases (show k = 1 ∨ k = 0 by omega) with rfl | rfl
      · exact q_mkR (ans := q_wbp v i n) (w1 := w) hI (e9.symm) [0, 3, 4, 5, 6, 7, 1, 8, 9, 10, 2] [wXB x sa ja ta h q, stW cy sa v, wOB cy o f9] [wHB h g z, wGB cy g (q_rf L), plW cy L, txW cy ta t, joW cy ja w, wQB cy q (slF sl), slW cy (sl 0), slW cy (sl 1)] (fun sz => m_L_ifGapP l D cy x sa ja ta h q v i n o f9 sz (by omega) hR.2.1 hR.1) (fun sz => r_X5_ifGap l D cy a u i 1 n sz (by omega) (by omega) h63 hn49 hR.1) rfl (by decide) rfl rfl rfl ⟨Nat.le_of_ble_eq_true rfl, Nat.le_of_ble_eq_true rfl, Nat.le_of_ble_eq_true rfl, Nat.le_of_ble_eq_true rfl⟩ ⟨Nat.le_of_ble_eq_true rfl, Nat.le_of_ble_eq_true rfl, rfl, rfl⟩ rfl rfl
      · have e8 : q_gt v w n 8 1 i = q_wbp v i n := ((q_gt_all v w n 8 (by omega)).2 i (by omega)).1
        exact q_mkR (ans := q_gt v w n 8 1 i) (w1 := q_gt v w n 8) hI (e8.trans e9.symm) [0, 4, 5, 6, 7, 1, 2, 8, 9, 10, 3] [wXB x sa ja ta h q, joW cy ja w, stW cy sa v, wOB cy o f9] [wHB h g z, wGB cy g (q_rf L), plW cy L, txW cy ta t, wQB cy q (slF sl), slW cy (sl 0), slW cy (sl 1)] (fun sz => m_L_ifGapJ l D cy x sa ja ta h q w v i n o f9 sz (by omega) hR.2.1 hR.1) (fun sz => r_X5_ifGap l D cy a u i 0 n sz (by omega) (by omega) h63 hn49 hR.1) rfl (by decide) rfl rfl rfl ⟨Nat.le_of_ble_eq_true rfl, Nat.le_of_ble_eq_true rfl, Nat.le_of_ble_eq_true rfl, Nat.le_of_ble_eq_true rfl⟩ ⟨Nat.le_of_ble_eq_true rfl, Nat.le_of_ble_eq_true rfl, rfl, rfl⟩ rfl rfl
set_option maxHeartbeats 4000000 in
set_option maxRecDepth 100000 in
theorem op_wrong (hl0 : l.stackTraces = false) (hI : q_I (L, z, t, w, v, sl, f9) u) (y : Int32) : q_Op l D cy x sa ja ta h g q o a [.int y] yL_wrong wsL_wrong yX5_wrong wsX5_wrong (L, z, t, w, v, sl, f9) u := by
  obtain ⟨hz, hL, h60, h63, ⟨n, hR⟩, hV, hS, k0, hT⟩ := id hI
  have hz : z ≤ L.length := hz
  have hL : L.length ≤ 6 := hL
  have h60 : u 6 0 = nI z := h60
  have h63 : u 6 3 = -1 := h63
  have hR : q_R n v (u 0) := hR
  have hT : q_T k0 t u := hT
  have hE := q_R_E hR
  have hn49 := q_R_49 hR
  rcases q_rng y (A := 0) (B := 4095) 0 4095 rfl rfl (by omega) (by omega) with hb | ⟨k, -, hk, rfl⟩
  · exact q_mkB (c := 1) hI rfl (by decide) [0, 2, 3, 4, 5, 6, 7, 8, 9, 10, 1] [wXB x sa ja ta h q, wOB cy o f9] [wHB h g z, wGB cy g (q_rf L), plW cy L, txW cy ta t, joW cy ja w, stW cy sa v, wQB cy q (slF sl), slW cy (sl 0), slW cy (sl 1)] (fun sz => b_L_wrong1 l hl0 D cy x sa ja ta h q y o f9 sz hb) (fun sz => r_X5_wrong1 l D cy a u y sz hb) rfl (by decide) rfl ⟨Nat.le_of_ble_eq_true rfl, Nat.le_of_ble_eq_true rfl, Nat.le_of_ble_eq_true rfl, Nat.le_of_ble_eq_true rfl⟩ ⟨Nat.le_of_ble_eq_true rfl, Nat.le_of_ble_eq_true rfl, rfl, rfl⟩ rfl rfl
  · exact q_mkR (ans := q_wm v (q_el v (-1) 0) (nI k) 8) (w1 := w) hI (q_wv_wm (u := su u 6 2 (nI 0)) hE hk) [0, 3, 4, 5, 6, 7, 1, 8, 9, 10, 2] [wXB x sa ja ta h q, stW cy sa v, wOB cy o f9] [wHB h g z, wGB cy g (q_rf L), plW cy L, txW cy ta t, joW cy ja w, wQB cy q (slF sl), slW cy (sl 0), slW cy (sl 1)] (fun sz => m_L_wrong l D cy x sa ja ta h q v k o f9 sz hk) (fun sz => r_X5_wrong l D cy a u k sz hk h63) rfl (by decide) rfl rfl rfl ⟨Nat.le_of_ble_eq_true rfl, Nat.le_of_ble_eq_true rfl, Nat.le_of_ble_eq_true rfl, Nat.le_of_ble_eq_true rfl⟩ ⟨Nat.le_of_ble_eq_true rfl, Nat.le_of_ble_eq_true rfl, rfl, rfl⟩ rfl rfl
set_option maxHeartbeats 4000000 in
set_option maxRecDepth 100000 in
theorem op_bears (hl0 : l.stackTraces = false) (hI : q_I (L, z, t, w, v, sl, f9) u) (y : Int32) : q_Op l D cy x sa ja ta h g q o a [.int y] yL_bears wsL_bears yX5_bears wsX5_bears (L, z, t, w, v, sl, f9) u := by
  obtain ⟨hz, hL, h60, h63, ⟨n, hR⟩, hV, hS, k0, hT⟩ := id hI
  have hz : z ≤ L.length := hz
  have hL : L.length ≤ 6 := hL
  have h60 : u 6 0 = nI z := h60
  have h63 : u 6 3 = -1 := h63
  have hR : q_R n v (u 0) := hR
  have hT : q_T k0 t u := hT
  have hE := q_R_E hR
  have hn49 := q_R_49 hR
  rcases q_rng y (A := 0) (B := 7) 0 7 rfl rfl (by omega) (by omega) with hb | ⟨i, -, hi, rfl⟩
  · exact q_mkB (c := 1) hI rfl (by decide) [0, 2, 3, 4, 5, 6, 7, 8, 9, 10, 1] [wXB x sa ja ta h q, wOB cy o f9] [wHB h g z, wGB cy g (q_rf L), plW cy L, txW cy ta t, joW cy ja w, stW cy sa v, wQB cy q (slF sl), slW cy (sl 0), slW cy (sl 1)] (fun sz => b_L_bears1 l hl0 D cy x sa ja ta h q y o f9 sz (q_up 7 rfl rfl (by omega) hb)) (fun sz => r_X5_bears1 l D cy a u y sz hb) rfl (by decide) rfl ⟨Nat.le_of_ble_eq_true rfl, Nat.le_of_ble_eq_true rfl, Nat.le_of_ble_eq_true rfl, Nat.le_of_ble_eq_true rfl⟩ ⟨Nat.le_of_ble_eq_true rfl, Nat.le_of_ble_eq_true rfl, rfl, rfl⟩ rfl rfl
  · exact q_mkR (ans := q_be v i) (w1 := w) hI (q_be_fl (u := su u 6 2 (nI 0)) hE (by omega)) [0, 3, 4, 5, 6, 7, 1, 8, 9, 10, 2] [wXB x sa ja ta h q, stW cy sa v, wOB cy o f9] [wHB h g z, wGB cy g (q_rf L), plW cy L, txW cy ta t, joW cy ja w, wQB cy q (slF sl), slW cy (sl 0), slW cy (sl 1)] (fun sz => m_L_bears l D cy x sa ja ta h q v i o f9 sz (by omega)) (fun sz => r_X5_bears l D cy a u i sz (by omega) h63) rfl (by decide) rfl rfl rfl ⟨Nat.le_of_ble_eq_true rfl, Nat.le_of_ble_eq_true rfl, Nat.le_of_ble_eq_true rfl, Nat.le_of_ble_eq_true rfl⟩ ⟨Nat.le_of_ble_eq_true rfl, Nat.le_of_ble_eq_true rfl, rfl, rfl⟩ rfl rfl
set_option maxHeartbeats 4000000 in
set_option maxRecDepth 100000 in
theorem op_wordsTo (hl0 : l.stackTraces = false) (hI : q_I (L, z, t, w, v, sl, f9) u) (y : Int32) : q_Op l D cy x sa ja ta h g q o a [.int y] yL_wordsTo wsL_wordsTo yX5_wordsTo wsX5_wordsTo (L, z, t, w, v, sl, f9) u := by
  obtain ⟨hz, hL, h60, h63, ⟨n, hR⟩, hV, hS, k0, hT⟩ := id hI
  have hz : z ≤ L.length := hz
  have hL : L.length ≤ 6 := hL
  have h60 : u 6 0 = nI z := h60
  have h63 : u 6 3 = -1 := h63
  have hR : q_R n v (u 0) := hR
  have hT : q_T k0 t u := hT
  have hE := q_R_E hR
  have hn49 := q_R_49 hR
  rcases q_rng y (A := 0) (B := 7) 0 7 rfl rfl (by omega) (by omega) with hb | ⟨i, -, hi, rfl⟩
  · exact q_mkB (c := 1) hI rfl (by decide) [0, 2, 3, 4, 5, 6, 7, 8, 9, 10, 1] [wXB x sa ja ta h q, wOB cy o f9] [wHB h g z, wGB cy g (q_rf L), plW cy L, txW cy ta t, joW cy ja w, stW cy sa v, wQB cy q (slF sl), slW cy (sl 0), slW cy (sl 1)] (fun sz => b_L_wordsTo1 l hl0 D cy x sa ja ta h q y o f9 sz (q_up 7 rfl rfl (by omega) hb)) (fun sz => r_X5_wordsTo1 l D cy a u y sz hb) rfl (by decide) rfl ⟨Nat.le_of_ble_eq_true rfl, Nat.le_of_ble_eq_true rfl, Nat.le_of_ble_eq_true rfl, Nat.le_of_ble_eq_true rfl⟩ ⟨Nat.le_of_ble_eq_true rfl, Nat.le_of_ble_eq_true rfl, rfl, rfl⟩ rfl rfl
  · exact q_mkR (ans := q_wu v i) (w1 := w) hI (e_wu hE (by omega)) [0, 3, 4, 5, 6, 7, 1, 8, 9, 10, 2] [wXB x sa ja ta h q, stW cy sa v, wOB cy o f9] [wHB h g z, wGB cy g (q_rf L), plW cy L, txW cy ta t, joW cy ja w, wQB cy q (slF sl), slW cy (sl 0), slW cy (sl 1)] (fun sz => m_L_wordsTo l D cy x sa ja ta h q v i o f9 sz (by omega)) (fun sz => r_X5_wordsTo l D cy a u i sz (by omega)) rfl (by decide) rfl rfl rfl ⟨Nat.le_of_ble_eq_true rfl, Nat.le_of_ble_eq_true rfl, Nat.le_of_ble_eq_true rfl, Nat.le_of_ble_eq_true rfl⟩ ⟨Nat.le_of_ble_eq_true rfl, Nat.le_of_ble_eq_true rfl, rfl, rfl⟩ rfl rfl
end OPS
