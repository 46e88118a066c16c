/-! ONE CALL: texts, snapshots, saved states -/
section OPS0
variable {l : Launch} {D : va_G} {cy : Nat → ClassId} {x : Nat} {sa ja ta : Nat → Nat} {h g q o : Nat} {a : Nat → Nat} {As : List Value} {yL yR : MethodName} {wsL wsR : List Cond} {u u1 : Nat → Nat → Int32} {rm rmR : Room} {mc ms : Nat}
variable {S S1 : q_S}
/-- what changes otherwise -/
theorem q_mkG {ans b0 : Int32} {bsC1 : List va_W} (hI : q_I S1 u1) (h62 : u1 6 2 = 0) (h9 : S1.2.2.2.2.2.2 0 = ans.toInt64) (hans : ans = b0) (bsC bsR : List va_W)
    (hC : ∀ sz : Nat, Met l yL wsL rm (wl_ic D cy (wl_T9 (va_A bsC.flatten sz)) bsC sz (.ref x :: (As ++ [.ref o]))) (va_Qi (fun (r : Int32) (bs : List va_W) => r = 0 ∧ bs = bsC1) (wl_ib D bsC sz) (va_A bsC.flatten sz)) mc ms (va_A bsC.flatten sz))
    (hR : ∀ sz : Nat, Met l yR wsR rmR (wl_ic D cy (fun _ => True) [moW cy a u] sz (.ref (a 0) :: As)) (va_Qi (fun (r : Int32) (bs : List va_W) => r = b0 ∧ bs = [moW cy a u1]) (wl_ib D [moW cy a u] sz) (va_A ([moW cy a u] : List va_W).flatten sz)) 0 0 (va_A ([moW cy a u] : List va_W).flatten sz))
    (hpp : (bsC ++ bsR).flatten.Perm (q_W cy x sa ja ta h g q o S).flatten) (hpp1 : (bsC1 ++ bsR).flatten.Perm (q_W cy x sa ja ta h g q o S1).flatten)
    (hrm : rm.frames ≤ 9 ∧ rm.locals ≤ 300 ∧ rm.cells ≤ 8 ∧ rm.slots ≤ 176) (hrR : rmR.frames ≤ 9 ∧ rmR.locals ≤ 300 ∧ rmR.cells = 0 ∧ rmR.slots = 0) (hmc : rm.cells = mc) (hms : rm.slots = ms) : q_Op l D cy x sa ja ta h g q o a As yL wsL yR wsR S u := by
  refine q_mk 0 b0 (fun S' => S' = S1) (fun u' => u' = u1) bsC bsR hC hpp (fun r b hb => ?_) hR (fun r b hb => ⟨_, hb.1, hb.2, rfl⟩) (fun S' u' e1 e2 => ?_) hrm hrR hmc hms
  · obtain ⟨e1, e2⟩ := hb
    subst e2
    exact ⟨_, e1, rfl, hpp1⟩
  · subst e1 e2
    exact ⟨hI, h62, fun _ => by rw [h9, hans]⟩
end OPS0
/-! texts alike -/
theorem q_sg_c {t t' : Nat → Nat → Int32} {n : Nat} (e : ∀ y, y < n → t 0 y = t' 0 y) (x : Int32) : q_sg t n x = q_sg t' n x := by
  unfold q_sg
  by_cases h1 : x < 0
  · rw [if_pos h1, if_pos h1]
  · rw [if_neg h1, if_neg h1]
    by_cases h2 : x.toNatClampNeg < n
    · rw [if_pos h2, if_pos h2, e _ h2]
    · rw [if_neg h2, if_neg h2]
theorem q_ft_c {t t' : Nat → Nat → Int32} {n : Nat} (e : ∀ y, y < n → t 0 y = t' 0 y) (k : Nat) : q_ft t n k = q_ft t' n k := by
  unfold q_ft
  rw [q_sg_c e, q_sg_c e]
theorem q_ep_c {t t' : Nat → Nat → Int32} {n : Nat} (e : ∀ y, y < n → t 0 y = t' 0 y) : q_ep t n = q_ep t' n := by
  unfold q_ep
  rw [show q_ft t n = q_ft t' n from funext (q_ft_c e)]
theorem q_wt_c {t t' : Nat → Nat → Int32} {n : Nat} (e : ∀ y, y < n → t 0 y = t' 0 y) : q_wt t n = q_wt t' n := by
  unfold q_wt q_wm0
  rw [q_ep_c e, q_sg_c e]
theorem q_wat_c {t t' : Nat → Nat → Int32} {n : Nat} (e : ∀ y, y < n → t 0 y = t' 0 y) (k : Nat) : q_wat t n k = q_wat t' n k := by
  unfold q_wat
  simp only [q_hex]
  rw [q_sg_c e, q_sg_c e, q_sg_c e]
theorem q_R_ld {t t' v U : Nat → Nat → Int32} {k n : Nat} (e : ∀ y, y < k → t 0 y = t' 0 y) (h : q_R n v (U 0)) : ∀ i : Nat, n + 12 * i ≤ 120 → q_R (n + 12 * i) (q_ld t k n v i) (q_ldm t' k n U i 0)
  | 0, _ => h
  | i + 1, hi => by
    have ih := q_R_ld e h i (by omega)
    have h2 := q_R_sn (x := q_wat t k i) ih 12 (by omega)
    rw [show n + 12 * (i + 1) = n + 12 * i + 12 by omega]
    show q_R (n + 12 * i + 12) (q_aw (q_wat t k i) (n + 12 * i) (q_ld t k n v i) 12) (q_sn (q_ldm t' k n U i) (n + 12 * i) (q_wat t' k i) 12 0)
    rw [← q_wat_c e]
    exact h2
theorem q_T_tv {k : Nat} {t u : Nat → Nat → Int32} (h : q_T k t u) : ∀ y, y < k → t 0 y = tv u 0 y := fun y hy => (h.2.2.2 y hy).1
theorem q_T_z {t u : Nat → Nat → Int32} (h1 : t 1 0 = 0) (h2 : u 6 1 = 0) : q_T 0 t u := ⟨by omega, h1, h2, fun y hy => absurd hy (Nat.not_lt_zero y)⟩
/-! slots -/
theorem slF_up {sl : Nat → Option ((Nat → Nat) × (Nat → Nat → Int32))} {i : Nat} {b : Nat → Nat} {v : Nat → Nat → Int32} : slF (va_up sl i (some (b, v))) = va_up (slF sl) i (some (b 0)) := by
  funext j
  unfold slF va_up
  by_cases e : j = i
  · rw [if_pos e, if_pos e]
    rfl
  · rw [if_neg e, if_neg e]
theorem slF_at {sl : Nat → Option ((Nat → Nat) × (Nat → Nat → Int32))} {i : Nat} {b : Nat → Nat} {v : Nat → Nat → Int32} (h : sl i = some (b, v)) : slF sl i = some (b 0) := by
  unfold slF
  rw [h]
  rfl
theorem slF_no {sl : Nat → Option ((Nat → Nat) × (Nat → Nat → Int32))} {i : Nat} (h : sl i = none) : slF sl i = none := by
  unfold slF
  rw [h]
  rfl
theorem slF_re {sl : Nat → Option ((Nat → Nat) × (Nat → Nat → Int32))} {i : Nat} {b : Nat → Nat} {v y : Nat → Nat → Int32} (h : sl i = some (b, y)) : slF (va_up sl i (some (b, v))) = slF sl := by
  rw [slF_up]
  funext j
  unfold va_up
  by_cases e : j = i
  · rw [if_pos e, e, slF_at h]
  · rw [if_neg e]
theorem q_sl_keep {sl : Nat → Option ((Nat → Nat) × (Nat → Nat → Int32))} {u : Nat → Nat → Int32} {i n : Nat} {c : Int32} {b : Nat → Nat} {v : Nat → Nat → Int32} (hS : ∀ j, j < 2 → q_slR (sl j) j u) (hi : i < 2) (hR : q_R n v (u 0)) : ∀ j, j < 2 → q_slR (va_up sl i (some (b, v)) j) j (su (sf (su u 6 2 c) 2 (q_cp ((su u 6 2 c) 0) ((su u 6 2 c) 2) 0 (170 * i) 170)) 3 i 1) := by
  intro j hj
  by_cases e : j = i
  · subst e
    have e1 : va_up sl j (some (b, v)) j = some (b, v) := if_pos rfl
    rw [e1]
    refine Or.inr ⟨b, v, rfl, if_pos rfl, n, q_R_c hR (fun k hk => ?_)⟩
    show q_cp (u 0) (u 2) 0 (170 * j) 170 (170 * j + k) = u 0 k
    unfold q_cp
    rw [if_pos (by omega), show 0 + (170 * j + k - 170 * j) = k by omega]
  · have e1 : va_up sl i (some (b, v)) j = sl j := if_neg e
    rw [e1]
    have e3 : su (sf (su u 6 2 c) 2 (q_cp ((su u 6 2 c) 0) ((su u 6 2 c) 2) 0 (170 * i) 170)) 3 i 1 3 j = u 3 j := if_neg e
    rcases hS j hj with ⟨h1, h2⟩ | ⟨b2, y, h1, h2, n2, h3⟩
    · exact Or.inl ⟨h1, e3.trans h2⟩
    · refine Or.inr ⟨b2, y, h1, e3.trans h2, n2, q_R_c h3 (fun k hk => ?_)⟩
      show q_cp (u 0) (u 2) 0 (170 * i) 170 (170 * j + k) = u 2 (170 * j + k)
      unfold q_cp
      rw [if_neg (by omega)]
theorem q_I_RT {S : q_S} {u Z : Nat → Nat → Int32} {k : Nat} (hI : q_I S u) (h : q_RT u k Z) : q_I S Z := by
  obtain ⟨a1, a2, a3, a4, a5, a6, a7, k0, a8⟩ := hI
  obtain ⟨h1, ⟨h60, h61, h62, h63⟩, -⟩ := h
  refine ⟨a1, a2, h60.trans a3, h63.trans a4, ?_, ?_, ?_, k0, q_T_c a8 h61 (h1 4 (by omega))⟩
  · rw [h1 0 (by omega)]
    exact a5
  · intro j y hj
    show ∃ n, q_R n y (fun k => Z 1 (170 * j + k))
    rw [h1 1 (by omega)]
    exact a6 j y hj
  · intro i hi
    have := a7 i hi
    unfold q_slR at this ⊢
    rw [h1 2 (by omega), h1 3 (by omega)]
    exact this
theorem q_I_th {S : q_S} {u : Nat → Nat → Int32} {c : Int32} (hI : q_I S u) : q_I S (su u 6 2 c) := hI
section OPS
variable {l : Launch} {D : va_G} {cy : Nat → ClassId} {x : Nat} {sa ja ta : Nat → Nat} {h g q o : Nat} {a : Nat → Nat} {u : Nat → Nat → Int32}
variable {L : HsL} {z : Nat} {t w v : Nat → Nat → Int32} {sl : Nat → Option ((Nat → Nat) × (Nat → Nat → Int32))} {f9 : Nat → Int64}
set_option maxHeartbeats 4000000 in
set_option maxRecDepth 100000 in
theorem op_append (hl0 : l.stackTraces = false) (hI : q_I (L, z, t, w, v, sl, f9) u) (y : Int32) : q_Op l D cy x sa ja ta h g q o a [.int y] yL_append wsL_append yX5_append wsX5_append (L, z, t, w, v, sl, f9) u := by
  obtain ⟨hz, hL, h60, h63, ⟨n, hR⟩, hV, hS, k0, hT⟩ := id hI
  have hz : z ≤ L.length := hz
  have hL : L.length ≤ 6 := hL
  have h60 : u 6 0 = nI z := h60
  have h63 : u 6 3 = -1 := h63
  have hR : q_R n v (u 0) := hR
  have hT : q_T k0 t u := hT
  have hE := q_R_E hR
  have hn49 := q_R_49 hR
  rcases q_rng y (A := 33) (B := 126) 33 126 rfl rfl (by omega) (by omega) with hb | ⟨i, hi1, hi, rfl⟩
  · exact q_mkB (c := 1) hI rfl (by decide) [0, 2, 3, 4, 5, 6, 7, 8, 9, 10, 1] [wXB x sa ja ta h q, wOB cy o f9] [wHB h g z, wGB cy g (q_rf L), plW cy L, txW cy ta t, joW cy ja w, stW cy sa v, wQB cy q (slF sl), slW cy (sl 0), slW cy (sl 1)] (fun sz => b_L_append1 l hl0 D cy x sa ja ta h q y o f9 sz hb) (fun sz => r_X5_append1 l D cy a u y sz hb) rfl (by decide) rfl ⟨Nat.le_of_ble_eq_true rfl, Nat.le_of_ble_eq_true rfl, Nat.le_of_ble_eq_true rfl, Nat.le_of_ble_eq_true rfl⟩ ⟨Nat.le_of_ble_eq_true rfl, Nat.le_of_ble_eq_true rfl, rfl, rfl⟩ rfl rfl
  · rcases Nat.lt_or_ge k0 60 with hk | hk
    · have hT1 : q_T (k0 + 1) (su (su t 0 k0 (nI i)) 1 0 (nI (k0 + 1))) (su (su (su u 6 2 (nI 0)) 4 k0 (nI i)) 6 1 (nI (k0 + 1))) := by
        refine ⟨by omega, rfl, rfl, fun y hy => ?_⟩
        show upd (t 0) k0 (nI i) y = upd (u 4) k0 (nI i) y ∧ vp_nar .char (upd (t 0) k0 (nI i) y) = upd (t 0) k0 (nI i) y
        rw [q_upd, q_upd]
        by_cases e : y = k0
        · rw [if_pos e, if_pos e]
          exact ⟨rfl, q_chr2 i hi⟩
        · rw [if_neg e, if_neg e]
          exact hT.2.2.2 y (by omega)
      exact q_mkG (S1 := (L, z, su (su t 0 k0 (nI i)) 1 0 (nI (k0 + 1)), w, v, sl, vp_updL f9 0 (Int32.toInt64 (nI (k0 + 1))))) (ans := nI (k0 + 1)) (q_I_row (u1 := su (su (su u 6 2 (nI 0)) 4 k0 (nI i)) 6 1 (nI (k0 + 1))) hI ⟨n, hR⟩ rfl rfl rfl rfl h63 ⟨k0 + 1, hT1⟩) rfl rfl (rfl) [wXB x sa ja ta h q, txW cy ta t, wOB cy o f9] [wHB h g z, wGB cy g (q_rf L), plW cy L, joW cy ja w, stW cy sa v, wQB cy q (slF sl), slW cy (sl 0), slW cy (sl 1)] (fun sz => m_L_append l D cy x sa ja ta h q t i k0 o f9 sz ⟨hi1, hi⟩ hT.2.1 hk) (fun sz => r_X5_append l D cy a u i k0 sz ⟨hi1, hi⟩ hT.2.2.1 hk) (wl_perm [0, 3, 4, 5, 1, 6, 7, 8, 9, 10, 2] 11 rfl (by decide) rfl).flatten (wl_perm [0, 3, 4, 5, 1, 6, 7, 8, 9, 10, 2] 11 rfl (by decide) rfl).flatten ⟨Nat.le_of_ble_eq_true rfl, Nat.le_of_ble_eq_true rfl, Nat.le_of_ble_eq_true rfl, Nat.le_of_ble_eq_true rfl⟩ ⟨Nat.le_of_ble_eq_true rfl, Nat.le_of_ble_eq_true rfl, rfl, rfl⟩ rfl rfl
    · obtain rfl : k0 = 60 := by have := hT.1; omega
      exact q_mkB (c := 2) hI rfl (by decide) [0, 3, 4, 5, 1, 6, 7, 8, 9, 10, 2] [wXB x sa ja ta h q, txW cy ta t, wOB cy o f9] [wHB h g z, wGB cy g (q_rf L), plW cy L, joW cy ja w, stW cy sa v, wQB cy q (slF sl), slW cy (sl 0), slW cy (sl 1)] (fun sz => b_L_append2 l hl0 D cy x sa ja ta h q t i o f9 sz ⟨hi1, hi⟩ hT.2.1) (fun sz => r_X5_append2 l D cy a u i sz ⟨hi1, hi⟩ hT.2.2.1) rfl (by decide) rfl ⟨Nat.le_of_ble_eq_true rfl, Nat.le_of_ble_eq_true rfl, Nat.le_of_ble_eq_true rfl, Nat.le_of_ble_eq_true rfl⟩ ⟨Nat.le_of_ble_eq_true rfl, Nat.le_of_ble_eq_true rfl, rfl, rfl⟩ rfl rfl
set_option maxHeartbeats 4000000 in
set_option maxRecDepth 100000 in
theorem op_keep (hl0 : l.stackTraces = false) (hI : q_I (L, z, t, w, v, sl, f9) u) (y : Int32) : q_Op l D cy x sa ja ta h g q o a [.int y] yL_keep wsL_keep yX5_keep wsX5_keep (L, z, t, w, v, sl, f9) u := by
  obtain ⟨hz, hL, h60, h63, ⟨n, hR⟩, hV, hS, k0, hT⟩ := id hI
  have hz : z ≤ L.length := hz
  have hL : L.length ≤ 6 := hL
  have h60 : u 6 0 = nI z := h60
  have h63 : u 6 3 = -1 := h63
  have hR : q_R n v (u 0) := hR
  have hT : q_T k0 t u := hT
  have hE := q_R_E hR
  have hn49 := q_R_49 hR
  rcases q_rng y (A := 0) (B := 1) 0 1 rfl rfl (by omega) (by omega) with hb | ⟨i, -, hi, rfl⟩
  · exact q_mkB (c := 1) hI rfl (by decide) [0, 2, 3, 4, 5, 6, 7, 8, 9, 10, 1] [wXB x sa ja ta h q, wOB cy o f9] [wHB h g z, wGB cy g (q_rf L), plW cy L, txW cy ta t, joW cy ja w, stW cy sa v, wQB cy q (slF sl), slW cy (sl 0), slW cy (sl 1)] (fun sz => b_L_keep1 l hl0 D cy x sa ja ta h q y o f9 sz (q_up 1 rfl rfl (by omega) hb)) (fun sz => r_X5_keep1 l D cy a u y sz hb) rfl (by decide) rfl ⟨Nat.le_of_ble_eq_true rfl, Nat.le_of_ble_eq_true rfl, Nat.le_of_ble_eq_true rfl, Nat.le_of_ble_eq_true rfl⟩ ⟨Nat.le_of_ble_eq_true rfl, Nat.le_of_ble_eq_true rfl, rfl, rfl⟩ rfl rfl
  · rcases (show i = 0 ∨ i = 1 by omega) with rfl | rfl
    · have hI1 : ∀ b : Nat → Nat, q_I (L, z, t, w, v, va_up sl 0 (some (b, v)), vp_updL f9 0 (Int32.toInt64 (v 7 0))) (su (sf (su u 6 2 (nI 0)) 2 (q_cp ((su u 6 2 (nI 0)) 0) ((su u 6 2 (nI 0)) 2) 0 (170 * 0) 170)) 3 0 1) := fun b => ⟨hz, hL, h60, h63, ⟨n, hR⟩, hV, q_sl_keep hS (by omega) hR, k0, q_T_c hT rfl rfl⟩
      rcases hS 0 (by omega) with ⟨hn1, hn2⟩ | ⟨b, y, hs1, hs2, hs3⟩
      · have hn1 : sl 0 = none := hn1
        have ew : q_W cy x sa ja ta h g q o (L, z, t, w, v, sl, f9) = [wXB x sa ja ta h q, wHB h g z, wGB cy g (q_rf L), plW cy L, txW cy ta t, joW cy ja w, stW cy sa v, wQB cy q (slF sl), ([] : va_W), slW cy (sl 1), wOB cy o f9] := by
          show [wXB x sa ja ta h q, wHB h g z, wGB cy g (q_rf L), plW cy L, txW cy ta t, joW cy ja w, stW cy sa v, wQB cy q (slF sl), slW cy (sl 0), slW cy (sl 1), wOB cy o f9] = _
          rw [hn1]
          rfl
        have hpp : ([wXB x sa ja ta h q, wQB cy q (slF sl), stW cy sa v, wOB cy o f9] ++ [wHB h g z, wGB cy g (q_rf L), plW cy L, txW cy ta t, joW cy ja w, ([] : va_W), slW cy (sl 1)] : List va_W).flatten.Perm (q_W cy x sa ja ta h g q o (L, z, t, w, v, sl, f9)).flatten := by
          rw [ew]
          exact (wl_perm [0, 4, 5, 6, 7, 8, 2, 1, 9, 10, 3] 11 rfl (by decide) rfl).flatten
        refine q_mk 0 (zv u 7 0) (fun S' => ∃ b : Nat → Nat, S' = (L, z, t, w, v, va_up sl 0 (some (b, v)), vp_updL f9 0 (Int32.toInt64 (v 7 0)))) (fun u' => u' = su (sf (su u 6 2 (nI 0)) 2 (q_cp ((su u 6 2 (nI 0)) 0) ((su u 6 2 (nI 0)) 2) 0 (170 * 0) 170)) 3 0 1) [wXB x sa ja ta h q, wQB cy q (slF sl), stW cy sa v, wOB cy o f9] [wHB h g z, wGB cy g (q_rf L), plW cy L, txW cy ta t, joW cy ja w, ([] : va_W), slW cy (sl 1)] (fun sz => m_L_keepN l D cy x sa ja ta h q (slF sl) v 0 o f9 sz (by omega) (slF_no hn1)) hpp (fun r b hb => ?_) (fun sz => r_X5_keep l D cy a u 0 sz (by omega)) (fun r b hb => ⟨_, hb.1, hb.2, rfl⟩) (fun S' u' e1 e2 => ?_) ⟨Nat.le_of_ble_eq_true rfl, Nat.le_of_ble_eq_true rfl, Nat.le_of_ble_eq_true rfl, Nat.le_of_ble_eq_true rfl⟩ ⟨Nat.le_of_ble_eq_true rfl, Nat.le_of_ble_eq_true rfl, rfl, rfl⟩ rfl rfl
        · obtain ⟨b2, e1, e2⟩ := hb
          subst e2
          refine ⟨_, e1, ⟨b2, rfl⟩, ?_⟩
          have ew2 : q_W cy x sa ja ta h g q o (L, z, t, w, v, va_up sl 0 (some (b2, v)), vp_updL f9 0 (Int32.toInt64 (v 7 0))) = [wXB x sa ja ta h q, wHB h g z, wGB cy g (q_rf L), plW cy L, txW cy ta t, joW cy ja w, stW cy sa v, wQB cy q (va_up (slF sl) 0 (some (b2 0))), stW cy b2 v, slW cy (sl 1), wOB cy o (vp_updL f9 0 (Int32.toInt64 (v 7 0)))] := by
            show [wXB x sa ja ta h q, wHB h g z, wGB cy g (q_rf L), plW cy L, txW cy ta t, joW cy ja w, stW cy sa v, wQB cy q (slF (va_up sl 0 (some (b2, v)))), slW cy (va_up sl 0 (some (b2, v)) 0), slW cy (va_up sl 0 (some (b2, v)) 1), wOB cy o (vp_updL f9 0 (Int32.toInt64 (v 7 0)))] = _
            rw [slF_up]
            rfl
          rw [ew2]
          refine List.Perm.trans ?_ (wl_perm (bs := [wXB x sa ja ta h q, wQB cy q (va_up (slF sl) 0 (some (b2 0))), stW cy b2 v, stW cy sa v, wOB cy o (vp_updL f9 0 (Int32.toInt64 (v 7 0))), wHB h g z, wGB cy g (q_rf L), plW cy L, txW cy ta t, joW cy ja w, slW cy (sl 1)]) [0, 5, 6, 7, 8, 9, 3, 1, 2, 10, 4] 11 rfl (by decide) rfl).flatten
          simp only [List.flatten_append, List.flatten_cons, List.flatten_nil, List.append_assoc, List.append_nil, List.nil_append]
          exact List.Perm.refl _
        · obtain ⟨b2, rfl⟩ := e1
          subst e2
          refine ⟨hI1 b2, rfl, fun _ => ?_⟩
          show Int32.toInt64 (v 7 0) = Int32.toInt64 (zv u 7 0)
          rw [hE.2.2.2 0 (by omega)]
      · have hs1 : sl 0 = some (b, y) := hs1
        have ew : q_W cy x sa ja ta h g q o (L, z, t, w, v, sl, f9) = [wXB x sa ja ta h q, wHB h g z, wGB cy g (q_rf L), plW cy L, txW cy ta t, joW cy ja w, stW cy sa v, wQB cy q (slF sl), stW cy b y, slW cy (sl 1), wOB cy o f9] := by
          show [wXB x sa ja ta h q, wHB h g z, wGB cy g (q_rf L), plW cy L, txW cy ta t, joW cy ja w, stW cy sa v, wQB cy q (slF sl), slW cy (sl 0), slW cy (sl 1), wOB cy o f9] = _
          rw [hs1]
          rfl
        have ew2 : q_W cy x sa ja ta h g q o (L, z, t, w, v, va_up sl 0 (some (b, v)), vp_updL f9 0 (Int32.toInt64 (v 7 0))) = [wXB x sa ja ta h q, wHB h g z, wGB cy g (q_rf L), plW cy L, txW cy ta t, joW cy ja w, stW cy sa v, wQB cy q (slF sl), stW cy b v, slW cy (sl 1), wOB cy o (vp_updL f9 0 (Int32.toInt64 (v 7 0)))] := by
          show [wXB x sa ja ta h q, wHB h g z, wGB cy g (q_rf L), plW cy L, txW cy ta t, joW cy ja w, stW cy sa v, wQB cy q (slF (va_up sl 0 (some (b, v)))), slW cy (va_up sl 0 (some (b, v)) 0), slW cy (va_up sl 0 (some (b, v)) 1), wOB cy o (vp_updL f9 0 (Int32.toInt64 (v 7 0)))] = _
          rw [slF_re hs1]
          rfl
        exact q_mkG (S1 := (L, z, t, w, v, va_up sl 0 (some (b, v)), vp_updL f9 0 (Int32.toInt64 (v 7 0)))) (ans := v 7 0) (hI1 b) rfl rfl (hE.2.2.2 0 (by omega)) [wXB x sa ja ta h q, wQB cy q (slF sl), stW cy b y, stW cy sa v, wOB cy o f9] [wHB h g z, wGB cy g (q_rf L), plW cy L, txW cy ta t, joW cy ja w, slW cy (sl 1)] (fun sz => m_L_keep l D cy x sa ja ta h q (slF sl) v b y 0 o f9 sz (by omega) (slF_at hs1)) (fun sz => r_X5_keep l D cy a u 0 sz (by omega)) (by rw [ew]; exact (wl_perm [0, 5, 6, 7, 8, 9, 3, 1, 2, 10, 4] 11 rfl (by decide) rfl).flatten) (by rw [ew2]; exact (wl_perm [0, 5, 6, 7, 8, 9, 3, 1, 2, 10, 4] 11 rfl (by decide) rfl).flatten) ⟨Nat.le_of_ble_eq_true rfl, Nat.le_of_ble_eq_true rfl, Nat.le_of_ble_eq_true rfl, Nat.le_of_ble_eq_true rfl⟩ ⟨Nat.le_of_ble_eq_true rfl, Nat.le_of_ble_eq_true rfl, rfl, rfl⟩ rfl rfl
    · have hI1 : ∀ b : Nat → Nat, q_I (L, z, t, w, v, va_up sl 1 (some (b, v)), vp_updL f9 0 (Int32.toInt64 (v 7 0))) (su (sf (su u 6 2 (nI 0)) 2 (q_cp ((su u 6 2 (nI 0)) 0) ((su u 6 2 (nI 0)) 2) 0 (170 * 1) 170)) 3 1 1) := fun b => ⟨hz, hL, h60, h63, ⟨n, hR⟩, hV, q_sl_keep hS (by omega) hR, k0, q_T_c hT rfl rfl⟩
      rcases hS 1 (by omega) with ⟨hn1, hn2⟩ | ⟨b, y, hs1, hs2, hs3⟩
      · have hn1 : sl 1 = none := hn1
        have ew : q_W cy x sa ja ta h g q o (L, z, t, w, v, sl, f9) = [wXB x sa ja ta h q, wHB h g z, wGB cy g (q_rf L), plW cy L, txW cy ta t, joW cy ja w, stW cy sa v, wQB cy q (slF sl), slW cy (sl 0), ([] : va_W), wOB cy o f9] := by
          show [wXB x sa ja ta h q, wHB h g z, wGB cy g (q_rf L), plW cy L, txW cy ta t, joW cy ja w, stW cy sa v, wQB cy q (slF sl), slW cy (sl 0), slW cy (sl 1), wOB cy o f9] = _
          rw [hn1]
          rfl
        have hpp : ([wXB x sa ja ta h q, wQB cy q (slF sl), stW cy sa v, wOB cy o f9] ++ [wHB h g z, wGB cy g (q_rf L), plW cy L, txW cy ta t, joW cy ja w, slW cy (sl 0), ([] : va_W)] : List va_W).flatten.Perm (q_W cy x sa ja ta h g q o (L, z, t, w, v, sl, f9)).flatten := by
          rw [ew]
          exact (wl_perm [0, 4, 5, 6, 7, 8, 2, 1, 9, 10, 3] 11 rfl (by decide) rfl).flatten
        refine q_mk 0 (zv u 7 0) (fun S' => ∃ b : Nat → Nat, S' = (L, z, t, w, v, va_up sl 1 (some (b, v)), vp_updL f9 0 (Int32.toInt64 (v 7 0)))) (fun u' => u' = su (sf (su u 6 2 (nI 0)) 2 (q_cp ((su u 6 2 (nI 0)) 0) ((su u 6 2 (nI 0)) 2) 0 (170 * 1) 170)) 3 1 1) [wXB x sa ja ta h q, wQB cy q (slF sl), stW cy sa v, wOB cy o f9] [wHB h g z, wGB cy g (q_rf L), plW cy L, txW cy ta t, joW cy ja w, slW cy (sl 0), ([] : va_W)] (fun sz => m_L_keepN l D cy x sa ja ta h q (slF sl) v 1 o f9 sz (by omega) (slF_no hn1)) hpp (fun r b hb => ?_) (fun sz => r_X5_keep l D cy a u 1 sz (by omega)) (fun r b hb => ⟨_, hb.1, hb.2, rfl⟩) (fun S' u' e1 e2 => ?_) ⟨Nat.le_of_ble_eq_true rfl, Nat.le_of_ble_eq_true rfl, Nat.le_of_ble_eq_true rfl, Nat.le_of_ble_eq_true rfl⟩ ⟨Nat.le_of_ble_eq_true rfl, Nat.le_of_ble_eq_true rfl, rfl, rfl⟩ rfl rfl
        · obtain ⟨b2, e1, e2⟩ := hb
          subst e2
          refine ⟨_, e1, ⟨b2, rfl⟩, ?_⟩
          have ew2 : q_W cy x sa ja ta h g q o (L, z, t, w, v, va_up sl 1 (some (b2, v)), vp_updL f9 0 (Int32.toInt64 (v 7 0))) = [wXB x sa ja ta h q, wHB h g z, wGB cy g (q_rf L), plW cy L, txW cy ta t, joW cy ja w, stW cy sa v, wQB cy q (va_up (slF sl) 1 (some (b2 0))), slW cy (sl 0), stW cy b2 v, wOB cy o (vp_updL f9 0 (Int32.toInt64 (v 7 0)))] := by
            show [wXB x sa ja ta h q, wHB h g z, wGB cy g (q_rf L), plW cy L, txW cy ta t, joW cy ja w, stW cy sa v, wQB cy q (slF (va_up sl 1 (some (b2, v)))), slW cy (va_up sl 1 (some (b2, v)) 0), slW cy (va_up sl 1 (some (b2, v)) 1), wOB cy o (vp_updL f9 0 (Int32.toInt64 (v 7 0)))] = _
            rw [slF_up]
            rfl
          rw [ew2]
          refine List.Perm.trans ?_ (wl_perm (bs := [wXB x sa ja ta h q, wQB cy q (va_up (slF sl) 1 (some (b2 0))), stW cy b2 v, stW cy sa v, wOB cy o (vp_updL f9 0 (Int32.toInt64 (v 7 0))), wHB h g z, wGB cy g (q_rf L), plW cy L, txW cy ta t, joW cy ja w, slW cy (sl 0)]) [0, 5, 6, 7, 8, 9, 3, 1, 10, 2, 4] 11 rfl (by decide) rfl).flatten
          simp only [List.flatten_append, List.flatten_cons, List.flatten_nil, List.append_assoc, List.append_nil, List.nil_append]
          exact List.Perm.refl _
        · obtain ⟨b2, rfl⟩ := e1
          subst e2
          refine ⟨hI1 b2, rfl, fun _ => ?_⟩
          show Int32.toInt64 (v 7 0) = Int32.toInt64 (zv u 7 0)
          rw [hE.2.2.2 0 (by omega)]
      · have hs1 : sl 1 = some (b, y) := hs1
        have ew : q_W cy x sa ja ta h g q o (L, z, t, w, v, sl, f9) = [wXB x sa ja ta h q, wHB h g z, wGB cy g (q_rf L), plW cy L, txW cy ta t, joW cy ja w, stW cy sa v, wQB cy q (slF sl), slW cy (sl 0), stW cy b y, wOB cy o f9] := by
          show [wXB x sa ja ta h q, wHB h g z, wGB cy g (q_rf L), plW cy L, txW cy ta t, joW cy ja w, stW cy sa v, wQB cy q (slF sl), slW cy (sl 0), slW cy (sl 1), wOB cy o f9] = _
          rw [hs1]
          rfl
        have ew2 : q_W cy x sa ja ta h g q o (L, z, t, w, v, va_up sl 1 (some (b, v)), vp_updL f9 0 (Int32.toInt64 (v 7 0))) = [wXB x sa ja ta h q, wHB h g z, wGB cy g (q_rf L), plW cy L, txW cy ta t, joW cy ja w, stW cy sa v, wQB cy q (slF sl), slW cy (sl 0), stW cy b v, wOB cy o (vp_updL f9 0 (Int32.toInt64 (v 7 0)))] := by
          show [wXB x sa ja ta h q, wHB h g z, wGB cy g (q_rf L), plW cy L, txW cy ta t, joW cy ja w, stW cy sa v, wQB cy q (slF (va_up sl 1 (some (b, v)))), slW cy (va_up sl 1 (some (b, v)) 0), slW cy (va_up sl 1 (some (b, v)) 1), wOB cy o (vp_updL f9 0 (Int32.toInt64 (v 7 0)))] = _
          rw [slF_re hs1]
          rfl
        exact q_mkG (S1 := (L, z, t, w, v, va_up sl 1 (some (b, v)), vp_updL f9 0 (Int32.toInt64 (v 7 0)))) (ans := v 7 0) (hI1 b) rfl rfl (hE.2.2.2 0 (by omega)) [wXB x sa ja ta h q, wQB cy q (slF sl), stW cy b y, stW cy sa v, wOB cy o f9] [wHB h g z, wGB cy g (q_rf L), plW cy L, txW cy ta t, joW cy ja w, slW cy (sl 0)] (fun sz => m_L_keep l D cy x sa ja ta h q (slF sl) v b y 1 o f9 sz (by omega) (slF_at hs1)) (fun sz => r_X5_keep l D cy a u 1 sz (by omega)) (by rw [ew]; exact (wl_perm [0, 5, 6, 7, 8, 9, 3, 1, 10, 2, 4] 11 rfl (by decide) rfl).flatten) (by rw [ew2]; exact (wl_perm [0, 5, 6, 7, 8, 9, 3, 1, 10, 2, 4] 11 rfl (by decide) rfl).flatten) ⟨Nat.le_of_ble_eq_true rfl, Nat.le_of_ble_eq_true rfl, Nat.le_of_ble_eq_true rfl, Nat.le_of_ble_eq_true rfl⟩ ⟨Nat.le_of_ble_eq_true rfl, Nat.le_of_ble_eq_true rfl, rfl, rfl⟩ rfl rfl
set_option maxHeartbeats 4000000 in
set_option maxRecDepth 100000 in
theorem op_goBack (hl0 : l.stackTraces = false) (hI : q_I (L, z, t, w, v, sl, f9) u) (y : Int32) : q_Op l D cy x sa ja ta h g q o a [.int y] yL_goBack wsL_goBack yX5_goBack wsX5_goBack (L, z, t, w, v, sl, f9) u := by
  obtain ⟨hz, hL, h60, h63, ⟨n, hR⟩, hV, hS, k0, hT⟩ := id hI
  have hz : z ≤ L.length := hz
  have hL : L.length ≤ 6 := hL
  have h60 : u 6 0 = nI z := h60
  have h63 : u 6 3 = -1 := h63
  have hR : q_R n v (u 0) := hR
  have hT : q_T k0 t u := hT
  have hE := q_R_E hR
  have hn49 := q_R_49 hR
  rcases q_rng y (A := 0) (B := 1) 0 1 rfl rfl (by omega) (by omega) with hb | ⟨i, -, hi, rfl⟩
  · exact q_mkB (c := 1) hI rfl (by decide) [0, 2, 3, 4, 5, 6, 7, 8, 9, 10, 1] [wXB x sa ja ta h q, wOB cy o f9] [wHB h g z, wGB cy g (q_rf L), plW cy L, txW cy ta t, joW cy ja w, stW cy sa v, wQB cy q (slF sl), slW cy (sl 0), slW cy (sl 1)] (fun sz => b_L_goBack1 l hl0 D cy x sa ja ta h q y o f9 sz (q_up 1 rfl rfl (by omega) hb)) (fun sz => r_X5_goBack1 l D cy a u y sz hb) rfl (by decide) rfl ⟨Nat.le_of_ble_eq_true rfl, Nat.le_of_ble_eq_true rfl, Nat.le_of_ble_eq_true rfl, Nat.le_of_ble_eq_true rfl⟩ ⟨Nat.le_of_ble_eq_true rfl, Nat.le_of_ble_eq_true rfl, rfl, rfl⟩ rfl rfl
  · rcases (show i = 0 ∨ i = 1 by omega) with rfl | rfl
    · rcases hS 0 (by omega) with ⟨hn1, hn2⟩ | ⟨b, y, hs1, hs2, m, hs3⟩
      · have hn1 : sl 0 = none := hn1
        exact q_mkB (c := 2) hI rfl (by decide) [0, 3, 4, 5, 6, 7, 8, 1, 9, 10, 2] [wXB x sa ja ta h q, wQB cy q (slF sl), wOB cy o f9] [wHB h g z, wGB cy g (q_rf L), plW cy L, txW cy ta t, joW cy ja w, stW cy sa v, slW cy (sl 0), slW cy (sl 1)] (fun sz => b_L_goBack2 l hl0 D cy x sa ja ta h q (slF sl) 0 o f9 sz (by omega) (slF_no hn1)) (fun sz => r_X5_goBack2 l D cy a u 0 sz (by omega) hn2) rfl (by decide) rfl ⟨Nat.le_of_ble_eq_true rfl, Nat.le_of_ble_eq_true rfl, Nat.le_of_ble_eq_true rfl, Nat.le_of_ble_eq_true rfl⟩ ⟨Nat.le_of_ble_eq_true rfl, Nat.le_of_ble_eq_true rfl, rfl, rfl⟩ rfl rfl
      · have hs1 : sl 0 = some (b, y) := hs1
        have ew : q_W cy x sa ja ta h g q o (L, z, t, w, v, sl, f9) = [wXB x sa ja ta h q, wHB h g z, wGB cy g (q_rf L), plW cy L, txW cy ta t, joW cy ja w, stW cy sa v, wQB cy q (slF sl), stW cy b y, slW cy (sl 1), wOB cy o f9] := by
          show [wXB x sa ja ta h q, wHB h g z, wGB cy g (q_rf L), plW cy L, txW cy ta t, joW cy ja w, stW cy sa v, wQB cy q (slF sl), slW cy (sl 0), slW cy (sl 1), wOB cy o f9] = _
          rw [hs1]
          rfl
        have ew2 : ∀ L1 z1, q_W cy x sa ja ta h g q o (L1, z1, t, w, y, sl, vp_updL f9 0 (Int32.toInt64 (y 7 0))) = [wXB x sa ja ta h q, wHB h g z1, wGB cy g (q_rf L1), plW cy L1, txW cy ta t, joW cy ja w, stW cy sa y, wQB cy q (slF sl), stW cy b y, slW cy (sl 1), wOB cy o (vp_updL f9 0 (Int32.toInt64 (y 7 0)))] := by
          intro L1 z1
          show [wXB x sa ja ta h q, wHB h g z1, wGB cy g (q_rf L1), plW cy L1, txW cy ta t, joW cy ja w, stW cy sa y, wQB cy q (slF sl), slW cy (sl 0), slW cy (sl 1), wOB cy o (vp_updL f9 0 (Int32.toInt64 (y 7 0)))] = _
          rw [hs1]
          rfl
        have hR1 : q_R m y ((sf (q_sv (su u 6 2 (nI 0)) z) 0 (q_cp ((q_sv (su u 6 2 (nI 0)) z) 2) ((q_sv (su u 6 2 (nI 0)) z) 0) (170 * 0) 0 170)) 0) := by
          refine q_R_c hs3 (fun k hk => ?_)
          show q_cp (u 2) (u 0) (170 * 0) 0 170 k = u 2 (170 * 0 + k)
          unfold q_cp
          rw [if_pos (by omega), show 170 * 0 + (k - 0) = 170 * 0 + k by omega]
        have hans : y 7 0 = zv (sf (q_sv (su u 6 2 (nI 0)) z) 0 (q_cp ((q_sv (su u 6 2 (nI 0)) z) 2) ((q_sv (su u 6 2 (nI 0)) z) 0) (170 * 0) 0 170)) 7 0 := (q_R_E hR1).2.2.2 0 (by omega)
        exact q_mkP (ans := y 7 0) (v1 := y) (u1 := sf (q_sv (su u 6 2 (nI 0)) z) 0 (q_cp ((q_sv (su u 6 2 (nI 0)) z) 2) ((q_sv (su u 6 2 (nI 0)) z) 0) (170 * 0) 0 170)) (t1 := t) (w1 := w) hI hans [] [wXB x sa ja ta h q, wHB h g z, wGB cy g (q_rf L), plW cy L, wQB cy q (slF sl), stW cy b y, stW cy sa v, wOB cy o f9] [txW cy ta t, joW cy ja w, slW cy (sl 1)] (fun L1 z1 => [wXB x sa ja ta h q, wHB h g z1, wGB cy g (q_rf L1), plW cy L1, wQB cy q (slF sl), stW cy b y, stW cy sa y, wOB cy o (vp_updL f9 0 (Int32.toInt64 (y 7 0)))]) (fun sz => m_L_goBack l D cy x sa ja ta h q g L z (slF sl) v b y 0 o f9 sz hz hL (by omega) (slF_at hs1)) (fun sz => r_X5_goBack l D cy a u 0 z sz (by omega) hs2 h60 (by omega)) (by rw [ew]; exact (wl_perm [0, 1, 2, 3, 8, 9, 6, 4, 5, 10, 7] 11 rfl (by decide) rfl).flatten) (fun L1 z1 => by rw [ew2]; exact (wl_perm [0, 1, 2, 3, 8, 9, 6, 4, 5, 10, 7] 11 rfl (by decide) rfl).flatten) ⟨m, hR1⟩ rfl rfl rfl rfl rfl rfl ⟨k0, q_T_c hT rfl rfl⟩ ⟨Nat.le_of_ble_eq_true rfl, Nat.le_of_ble_eq_true rfl, Nat.le_of_ble_eq_true rfl, Nat.le_of_ble_eq_true rfl⟩ ⟨Nat.le_of_ble_eq_true rfl, Nat.le_of_ble_eq_true rfl, rfl, rfl⟩ rfl rfl
    · rcases hS 1 (by omega) with ⟨hn1, hn2⟩ | ⟨b, y, hs1, hs2, m, hs3⟩
      · have hn1 : sl 1 = none := hn1
        exact q_mkB (c := 2) hI rfl (by decide) [0, 3, 4, 5, 6, 7, 8, 1, 9, 10, 2] [wXB x sa ja ta h q, wQB cy q (slF sl), wOB cy o f9] [wHB h g z, wGB cy g (q_rf L), plW cy L, txW cy ta t, joW cy ja w, stW cy sa v, slW cy (sl 0), slW cy (sl 1)] (fun sz => b_L_goBack2 l hl0 D cy x sa ja ta h q (slF sl) 1 o f9 sz (by omega) (slF_no hn1)) (fun sz => r_X5_goBack2 l D cy a u 1 sz (by omega) hn2) rfl (by decide) rfl ⟨Nat.le_of_ble_eq_true rfl, Nat.le_of_ble_eq_true rfl, Nat.le_of_ble_eq_true rfl, Nat.le_of_ble_eq_true rfl⟩ ⟨Nat.le_of_ble_eq_true rfl, Nat.le_of_ble_eq_true rfl, rfl, rfl⟩ rfl rfl
      · have hs1 : sl 1 = some (b, y) := hs1
        have ew : q_W cy x sa ja ta h g q o (L, z, t, w, v, sl, f9) = [wXB x sa ja ta h q, wHB h g z, wGB cy g (q_rf L), plW cy L, txW cy ta t, joW cy ja w, stW cy sa v, wQB cy q (slF sl), slW cy (sl 0), stW cy b y, wOB cy o f9] := by
          show [wXB x sa ja ta h q, wHB h g z, wGB cy g (q_rf L), plW cy L, txW cy ta t, joW cy ja w, stW cy sa v, wQB cy q (slF sl), slW cy (sl 0), slW cy (sl 1), wOB cy o f9] = _
          rw [hs1]
          rfl
        have ew2 : ∀ L1 z1, q_W cy x sa ja ta h g q o (L1, z1, t, w, y, sl, vp_updL f9 0 (Int32.toInt64 (y 7 0))) = [wXB x sa ja ta h q, wHB h g z1, wGB cy g (q_rf L1), plW cy L1, txW cy ta t, joW cy ja w, stW cy sa y, wQB cy q (slF sl), slW cy (sl 0), stW cy b y, wOB cy o (vp_updL f9 0 (Int32.toInt64 (y 7 0)))] := by
          intro L1 z1
          show [wXB x sa ja ta h q, wHB h g z1, wGB cy g (q_rf L1), plW cy L1, txW cy ta t, joW cy ja w, stW cy sa y, wQB cy q (slF sl), slW cy (sl 0), slW cy (sl 1), wOB cy o (vp_updL f9 0 (Int32.toInt64 (y 7 0)))] = _
          rw [hs1]
          rfl
        have hR1 : q_R m y ((sf (q_sv (su u 6 2 (nI 0)) z) 0 (q_cp ((q_sv (su u 6 2 (nI 0)) z) 2) ((q_sv (su u 6 2 (nI 0)) z) 0) (170 * 1) 0 170)) 0) := by
          refine q_R_c hs3 (fun k hk => ?_)
          show q_cp (u 2) (u 0) (170 * 1) 0 170 k = u 2 (170 * 1 + k)
          unfold q_cp
          rw [if_pos (by omega), show 170 * 1 + (k - 0) = 170 * 1 + k by omega]
        have hans : y 7 0 = zv (sf (q_sv (su u 6 2 (nI 0)) z) 0 (q_cp ((q_sv (su u 6 2 (nI 0)) z) 2) ((q_sv (su u 6 2 (nI 0)) z) 0) (170 * 1) 0 170)) 7 0 := (q_R_E hR1).2.2.2 0 (by omega)
        exact q_mkP (ans := y 7 0) (v1 := y) (u1 := sf (q_sv (su u 6 2 (nI 0)) z) 0 (q_cp ((q_sv (su u 6 2 (nI 0)) z) 2) ((q_sv (su u 6 2 (nI 0)) z) 0) (170 * 1) 0 170)) (t1 := t) (w1 := w) hI hans [] [wXB x sa ja ta h q, wHB h g z, wGB cy g (q_rf L), plW cy L, wQB cy q (slF sl), stW cy b y, stW cy sa v, wOB cy o f9] [txW cy ta t, joW cy ja w, slW cy (sl 0)] (fun L1 z1 => [wXB x sa ja ta h q, wHB h g z1, wGB cy g (q_rf L1), plW cy L1, wQB cy q (slF sl), stW cy b y, stW cy sa y, wOB cy o (vp_updL f9 0 (Int32.toInt64 (y 7 0)))]) (fun sz => m_L_goBack l D cy x sa ja ta h q g L z (slF sl) v b y 1 o f9 sz hz hL (by omega) (slF_at hs1)) (fun sz => r_X5_goBack l D cy a u 1 z sz (by omega) hs2 h60 (by omega)) (by rw [ew]; exact (wl_perm [0, 1, 2, 3, 8, 9, 6, 4, 10, 5, 7] 11 rfl (by decide) rfl).flatten) (fun L1 z1 => by rw [ew2]; exact (wl_perm [0, 1, 2, 3, 8, 9, 6, 4, 10, 5, 7] 11 rfl (by decide) rfl).flatten) ⟨m, hR1⟩ rfl rfl rfl rfl rfl rfl ⟨k0, q_T_c hT rfl rfl⟩ ⟨Nat.le_of_ble_eq_true rfl, Nat.le_of_ble_eq_true rfl, Nat.le_of_ble_eq_true rfl, Nat.le_of_ble_eq_true rfl⟩ ⟨Nat.le_of_ble_eq_true rfl, Nat.le_of_ble_eq_true rfl, rfl, rfl⟩ rfl rfl
end OPS
