/-! THE LAW, from its entry -/
theorem p_W0 {cy : Nat → ClassId} {x : Nat} {sa ja ta : Nat → Nat} {h g q : Nat} : ([([(x, .inr (4, [.ref (sa 0), .ref (ja 0), .ref (ta 0), .ref h, .ref q]))] : va_W), ([(h, .inr (0, [.ref g, .int (nI 0)]))] : va_W), ([(g, .inl (cy 3, 6, (.inr (.inr (.inr (.inr (q_rf [])))))))] : va_W), plW cy [], txW cy ta q_z0, joW cy ja q_z0, stW cy sa q_s0, ([(q, .inl (cy 3, 2, (.inr (.inr (.inr (.inr (fun _ => none)))))))] : va_W), slW cy none] : List va_W).flatten = ([([(x, .inr (4, [.ref (sa 0), .ref (ja 0), .ref (ta 0), .ref h, .ref q]))] : va_W), ([(h, .inr (0, [.ref g, .int (nI 0)]))] : va_W), ([(g, .inl (cy 3, 6, (.inr (.inr (.inr (.inr (fun _ => none)))))))] : va_W), txW cy ta q_z0, joW cy ja q_z0, stW cy sa q_s0, ([(q, .inl (cy 3, 2, (.inr (.inr (.inr (.inr (fun _ => none)))))))] : va_W)] : List va_W).flatten := by
  have e1 : q_rf [] = (fun _ => none) := by
    funext k
    simp [q_rf]
  simp [e1, plW, slW]
set_option maxHeartbeats 16000000 in
set_option maxRecDepth 100000 in
theorem whole_start {p : Program} {e : Env} {s : State} {m : MethodId} {below : List Frame} {meth : Method} {c : Code} (l : Launch) (hflags : l.flags = flags0) {b L : Nat} {xs : Nat → Int32} (hL : L ≤ 260) (C0 : lw_At p s m meth c b L xs) : W p l e room_1 s m #[Value.ref b] below meth c s.heap [] 0 0 (lw_Z below #[Value.ref b] s) (entryFrame m ([Value.ref b] : List Value).toArray 17) := by
  obtain ⟨hx, hb, hr, hml, hown, htl, hXs, hbl, hlocks, hgv⟩ := C0
  have hl0 : l.stackTraces = false := by
    unfold Launch.stackTraces
    rw [hflags]
    decide +kernel
  obtain ⟨D, cy, hK⟩ := q_mkK htl
  obtain ⟨A, hA0⟩ : ∃ A : Nat → Prop, A = (fun q : Nat => s.heap.size ≤ q) := ⟨_, rfl⟩
  have hX : wl_T9 A s := by
    rw [hA0]
    exact q_mkT htl hgv
  have hts : ∀ w ∈ wsL_law, w.before #[Value.ref b] s = true := fun w h => htl w (wsL_law_in w h)
  have hA : ∀ q : Nat, s.heap.size ≤ q → A q := fun q h => by
    rw [hA0]
    exact h
  have hbA : ¬ A b := by
    rw [hA0]
    exact Nat.not_le.mpr hbl
  have hLs : L < 2 ^ 31 := by omega
  have kend : ∀ (H : Heap) (locs : List Loc) (ls : Array Slot), va_S A s.heap H locs → W p l e room_1 s m #[Value.ref b] below meth c H locs 600172 7300668 (lw_Z below #[Value.ref b] s) (F0 m 414 ls [.int 1]) := by
    intro H locs ls hS
    rw [hA0] at hS
    refine va_forget hS.2.2 ?_
    exact W.base (lw_ret (Drawn.sameBut.refl s.drawn lw_cs) hx hb hr hlocks dL_law_414)
  have hS : va_S A s.heap s.heap [] := va_S.rf
  have hP : va_P D vwCl ([] : List va_W).flatten s.heap := fun k q h => by simp at h
  have hD : va_D A ([] : List va_W).flatten := ⟨fun i j p q h => by simp at h, fun k q h => by simp at h⟩
  have hl := lv_entry ([.ref b]) (n := 17) (Nat.le_of_ble_eq_true rfl)
  rw [lg_entry_eq]
  generalize (lg_sl ([.ref b]) ++ List.replicate (17 - (lg_sl ([.ref b])).length) Slot.unset).toArray = ls at hl ⊢
  have hl : lv_has ls 17 [(0, .ref b)] := hl
  refine wl_new (C := RX4) (T := TX4) (N := 5) (ci := 4) hx hb htl inX4 tyX4 tyX4_ok hown (htl (.classLink RL 10 RX4) (by decide +kernel)) (htl (.instantiable RX4 5) (by decide +kernel)) (htl (.initialized RX4) (by decide +kernel)) hK hP hD hS hA rfl [.null, .null, .null, .null, .null] (by decide +kernel) (Nat.le_of_ble_eq_true rfl) (Nat.le_of_ble_eq_true rfl) dL_law_0 (fun x H hP hD hS => ?_)
  refine W.widen (k := 1) (n := 5) (Nat.le_refl _) (Nat.le_refl _) ?_
  have hP : va_P D vwCl ([([(x, .inr (4, [.null, .null, .null, .null, .null]))] : va_W)] ++ [] : List va_W).flatten H := hP
  have hD : va_D A ([([(x, .inr (4, [.null, .null, .null, .null, .null]))] : va_W)] ++ [] : List va_W).flatten := hD
  refine lv_dup hx hb dL_law_3 rfl ?_
  refine wl_iI (As := []) (rest := [.ref x]) (bsC := [([(x, .inr (4, [.null, .null, .null, .null, .null]))] : va_W)]) (bsR := []) ⟨hx, hb, hml, hown, hts⟩ (m_X4_init l D cy x H.size) (cwI 0 hts gL_law_X4_init rfl rfl rfl (htl (.initialized RX4) (by decide +kernel)) (htl (.methodLink RL 116 yX4_init) (by decide +kernel)) (htl (.instanceMethod yX4_init) (by decide +kernel)) rfl (by decide +kernel) ⟨Nat.le_of_ble_eq_true rfl, Nat.le_of_ble_eq_true rfl⟩) wl_E_b (fun U _ hW => wl_E_w hW hX.1.1) hK hP hD hS hA rfl hl.1 rfl (Nat.le_of_ble_eq_true rfl) dL_law_4 ⟨Nat.le_of_ble_eq_true rfl, Nat.le_of_ble_eq_true rfl⟩ (fun bs1 H locs e3 _ _ hP hD hS => ?_)
  obtain ⟨sa, ja, ta, h, g, q, e3⟩ := e3
  subst e3
  refine W.widen (k := 18) (n := 395) (Nat.le_refl _) (Nat.le_refl _) ?_
  have hP : va_P D vwCl ([([(x, .inr (4, [.ref (sa 0), .ref (ja 0), .ref (ta 0), .ref h, .ref q]))] : va_W), stW cy sa q_s0, joW cy ja q_z0, txW cy ta q_z0, ([(h, .inr (0, [.ref g, .int (nI 0)]))] : va_W), ([(g, .inl (cy 3, 6, (.inr (.inr (.inr (.inr (fun _ => none)))))))] : va_W), ([(q, .inl (cy 3, 2, (.inr (.inr (.inr (.inr (fun _ => none)))))))] : va_W)] : List va_W).flatten H := by
    rw [List.append_nil] at hP
    exact hP
  have hD : va_D A ([([(x, .inr (4, [.ref (sa 0), .ref (ja 0), .ref (ta 0), .ref h, .ref q]))] : va_W), stW cy sa q_s0, joW cy ja q_z0, txW cy ta q_z0, ([(h, .inr (0, [.ref g, .int (nI 0)]))] : va_W), ([(g, .inl (cy 3, 6, (.inr (.inr (.inr (.inr (fun _ => none)))))))] : va_W), ([(q, .inl (cy 3, 2, (.inr (.inr (.inr (.inr (fun _ => none)))))))] : va_W)] : List va_W).flatten := by
    rw [List.append_nil] at hD
    exact hD
  have hP := wl_Po (bs' := [([(x, .inr (4, [.ref (sa 0), .ref (ja 0), .ref (ta 0), .ref h, .ref q]))] : va_W), ([(h, .inr (0, [.ref g, .int (nI 0)]))] : va_W), ([(g, .inl (cy 3, 6, (.inr (.inr (.inr (.inr (fun _ => none)))))))] : va_W), txW cy ta q_z0, joW cy ja q_z0, stW cy sa q_s0, ([(q, .inl (cy 3, 2, (.inr (.inr (.inr (.inr (fun _ => none)))))))] : va_W)]) [0, 4, 5, 3, 2, 1, 6] 7 rfl (by decide) rfl hP
  have hD := wl_Do (bs' := [([(x, .inr (4, [.ref (sa 0), .ref (ja 0), .ref (ta 0), .ref h, .ref q]))] : va_W), ([(h, .inr (0, [.ref g, .int (nI 0)]))] : va_W), ([(g, .inl (cy 3, 6, (.inr (.inr (.inr (.inr (fun _ => none)))))))] : va_W), txW cy ta q_z0, joW cy ja q_z0, stW cy sa q_s0, ([(q, .inl (cy 3, 2, (.inr (.inr (.inr (.inr (fun _ => none)))))))] : va_W)]) [0, 4, 5, 3, 2, 1, 6] 7 rfl (by decide) rfl hD
  rw [← p_W0] at hP hD
  refine lv_astore_n (lv' := [(1, .ref x), (0, .ref b)]) hx hb dL_law_7 rfl hl (by decide) rfl (fun ls hl => ?_)
  refine lv_aload_n hx hb dL_law_8 rfl (lv_at hl 0 rfl) ?_
  refine lv_bipush (v := 9) hx hb dL_law_9 (by decide) ?_
  refine lv_iconst (v := 0) hx hb dL_law_11 (by decide) ?_
  refine lv_iconst (v := 0) hx hb dL_law_12 (by decide) ?_
  refine wl_iSW (As := [.ref x, .int 9, .int 0, .int 0]) (rest := []) (bsC := [([(x, .inr (4, [.ref (sa 0), .ref (ja 0), .ref (ta 0), .ref h, .ref q]))] : va_W), ([(h, .inr (0, [.ref g, .int (nI 0)]))] : va_W), ([(g, .inl (cy 3, 6, (.inr (.inr (.inr (.inr (q_rf [])))))))] : va_W)]) (bsR := [plW cy [], txW cy ta q_z0, joW cy ja q_z0, stW cy sa q_s0, ([(q, .inl (cy 3, 2, (.inr (.inr (.inr (.inr (fun _ => none)))))))] : va_W), slW cy none]) ⟨hx, hb, hml, hown, hts⟩ (b_c_undo1 l hl0 D cy x sa ja ta h q g (q_rf []) 0 0 H.size ) (vx_cwSW 4 hts gL_law_L_call rfl rfl rfl (by decide +kernel) ⟨Nat.le_of_ble_eq_true rfl, Nat.le_of_ble_eq_true rfl⟩) wl_T9_b (fun U hU hW => wl_T9_w hU hW hS (wl_freeB (bsC := [([(x, .inr (4, [.ref (sa 0), .ref (ja 0), .ref (ta 0), .ref h, .ref q]))] : va_W), ([(h, .inr (0, [.ref g, .int (nI 0)]))] : va_W), ([(g, .inl (cy 3, 6, (.inr (.inr (.inr (.inr (q_rf [])))))))] : va_W)]) (bsR := [plW cy [], txW cy ta q_z0, joW cy ja q_z0, stW cy sa q_s0, ([(q, .inl (cy 3, 2, (.inr (.inr (.inr (.inr (fun _ => none)))))))] : va_W), slW cy none]) hD hS hA) hX) hK hP hD hS hA rfl hl.1 rfl (Nat.le_of_ble_eq_true rfl) dL_law_13 ⟨(by show _ ≤ 600172; omega), (by show _ ≤ 7300668; omega)⟩ (fun r1 bs2 H locs e3 _ _ hP hD hS => ?_)
  obtain ⟨er1, e3⟩ : r1 = (-12) ∧ bs2 = [([(x, .inr (4, [.ref (sa 0), .ref (ja 0), .ref (ta 0), .ref h, .ref q]))] : va_W), ([(h, .inr (0, [.ref g, .int (nI 0)]))] : va_W), ([(g, .inl (cy 3, 6, (.inr (.inr (.inr (.inr (q_rf [])))))))] : va_W)] := e3
  subst e3
  subst er1
  refine W.widen (k := 19) (n := 401) (by omega) (by omega) ?_
  have hP : va_P D vwCl ([([(x, .inr (4, [.ref (sa 0), .ref (ja 0), .ref (ta 0), .ref h, .ref q]))] : va_W), ([(h, .inr (0, [.ref g, .int (nI 0)]))] : va_W), ([(g, .inl (cy 3, 6, (.inr (.inr (.inr (.inr (q_rf [])))))))] : va_W), plW cy [], txW cy ta q_z0, joW cy ja q_z0, stW cy sa q_s0, ([(q, .inl (cy 3, 2, (.inr (.inr (.inr (.inr (fun _ => none)))))))] : va_W), slW cy none] : List va_W).flatten H := hP
  have hD : va_D A ([([(x, .inr (4, [.ref (sa 0), .ref (ja 0), .ref (ta 0), .ref h, .ref q]))] : va_W), ([(h, .inr (0, [.ref g, .int (nI 0)]))] : va_W), ([(g, .inl (cy 3, 6, (.inr (.inr (.inr (.inr (q_rf [])))))))] : va_W), plW cy [], txW cy ta q_z0, joW cy ja q_z0, stW cy sa q_s0, ([(q, .inl (cy 3, 2, (.inr (.inr (.inr (.inr (fun _ => none)))))))] : va_W), slW cy none] : List va_W).flatten := hD
  refine lv_bipush (v := (-12)) hx hb dL_law_16 (by decide) ?_
  refine lv_icmp_ne (tgt := 108) hx hb dL_law_18 (by decide) (fun c4 => absurd rfl c4) (fun c4 => ?_)
  refine lv_aload_n hx hb dL_law_21 rfl (lv_at hl 0 rfl) ?_
  refine lv_bipush (v := 8) hx hb dL_law_22 (by decide) ?_
  refine lv_iconst (v := 0) hx hb dL_law_24 (by decide) ?_
  refine lv_iconst (v := 0) hx hb dL_law_25 (by decide) ?_
  have hP := wl_Po (bs' := [([(x, .inr (4, [.ref (sa 0), .ref (ja 0), .ref (ta 0), .ref h, .ref q]))] : va_W), ([(q, .inl (cy 3, 2, (.inr (.inr (.inr (.inr (fun _ => none)))))))] : va_W), ([(h, .inr (0, [.ref g, .int (nI 0)]))] : va_W), ([(g, .inl (cy 3, 6, (.inr (.inr (.inr (.inr (q_rf [])))))))] : va_W), plW cy [], txW cy ta q_z0, joW cy ja q_z0, stW cy sa q_s0, slW cy none]) [0, 7, 1, 2, 3, 4, 5, 6, 8] 9 rfl (by decide) rfl hP
  have hD := wl_Do (bs' := [([(x, .inr (4, [.ref (sa 0), .ref (ja 0), .ref (ta 0), .ref h, .ref q]))] : va_W), ([(q, .inl (cy 3, 2, (.inr (.inr (.inr (.inr (fun _ => none)))))))] : va_W), ([(h, .inr (0, [.ref g, .int (nI 0)]))] : va_W), ([(g, .inl (cy 3, 6, (.inr (.inr (.inr (.inr (q_rf [])))))))] : va_W), plW cy [], txW cy ta q_z0, joW cy ja q_z0, stW cy sa q_s0, slW cy none]) [0, 7, 1, 2, 3, 4, 5, 6, 8] 9 rfl (by decide) rfl hD
  refine wl_iSW (As := [.ref x, .int 8, .int 0, .int 0]) (rest := []) (bsC := [([(x, .inr (4, [.ref (sa 0), .ref (ja 0), .ref (ta 0), .ref h, .ref q]))] : va_W), ([(q, .inl (cy 3, 2, (.inr (.inr (.inr (.inr (fun _ => none)))))))] : va_W)]) (bsR := [([(h, .inr (0, [.ref g, .int (nI 0)]))] : va_W), ([(g, .inl (cy 3, 6, (.inr (.inr (.inr (.inr (q_rf [])))))))] : va_W), plW cy [], txW cy ta q_z0, joW cy ja q_z0, stW cy sa q_s0, slW cy none]) ⟨hx, hb, hml, hown, hts⟩ (b_c_goBack2 l hl0 D cy x sa ja ta h q (fun _ => none) 0 0 H.size (by omega) rfl) (vx_cwSW 4 hts gL_law_L_call rfl rfl rfl (by decide +kernel) ⟨Nat.le_of_ble_eq_true rfl, Nat.le_of_ble_eq_true rfl⟩) wl_T9_b (fun U hU hW => wl_T9_w hU hW hS (wl_freeB (bsC := [([(x, .inr (4, [.ref (sa 0), .ref (ja 0), .ref (ta 0), .ref h, .ref q]))] : va_W), ([(q, .inl (cy 3, 2, (.inr (.inr (.inr (.inr (fun _ => none)))))))] : va_W)]) (bsR := [([(h, .inr (0, [.ref g, .int (nI 0)]))] : va_W), ([(g, .inl (cy 3, 6, (.inr (.inr (.inr (.inr (q_rf [])))))))] : va_W), plW cy [], txW cy ta q_z0, joW cy ja q_z0, stW cy sa q_s0, slW cy none]) hD hS hA) hX) hK hP hD hS hA rfl hl.1 rfl (Nat.le_of_ble_eq_true rfl) dL_law_26 ⟨(by show _ ≤ 600172; omega), (by show _ ≤ 7300668; omega)⟩ (fun r5 bs6 H locs e7 _ _ hP hD hS => ?_)
  obtain ⟨er5, e7⟩ : r5 = (-12) ∧ bs6 = [([(x, .inr (4, [.ref (sa 0), .ref (ja 0), .ref (ta 0), .ref h, .ref q]))] : va_W), ([(q, .inl (cy 3, 2, (.inr (.inr (.inr (.inr (fun _ => none)))))))] : va_W)] := e7
  subst e7
  subst er5
  refine W.widen (k := 20) (n := 407) (by omega) (by omega) ?_
  have hP : va_P D vwCl ([([(x, .inr (4, [.ref (sa 0), .ref (ja 0), .ref (ta 0), .ref h, .ref q]))] : va_W), ([(q, .inl (cy 3, 2, (.inr (.inr (.inr (.inr (fun _ => none)))))))] : va_W), ([(h, .inr (0, [.ref g, .int (nI 0)]))] : va_W), ([(g, .inl (cy 3, 6, (.inr (.inr (.inr (.inr (q_rf [])))))))] : va_W), plW cy [], txW cy ta q_z0, joW cy ja q_z0, stW cy sa q_s0, slW cy none] : List va_W).flatten H := hP
  have hD : va_D A ([([(x, .inr (4, [.ref (sa 0), .ref (ja 0), .ref (ta 0), .ref h, .ref q]))] : va_W), ([(q, .inl (cy 3, 2, (.inr (.inr (.inr (.inr (fun _ => none)))))))] : va_W), ([(h, .inr (0, [.ref g, .int (nI 0)]))] : va_W), ([(g, .inl (cy 3, 6, (.inr (.inr (.inr (.inr (q_rf [])))))))] : va_W), plW cy [], txW cy ta q_z0, joW cy ja q_z0, stW cy sa q_s0, slW cy none] : List va_W).flatten := hD
  have hP := wl_Po (bs' := [([(x, .inr (4, [.ref (sa 0), .ref (ja 0), .ref (ta 0), .ref h, .ref q]))] : va_W), ([(h, .inr (0, [.ref g, .int (nI 0)]))] : va_W), ([(g, .inl (cy 3, 6, (.inr (.inr (.inr (.inr (q_rf [])))))))] : va_W), plW cy [], txW cy ta q_z0, joW cy ja q_z0, stW cy sa q_s0, ([(q, .inl (cy 3, 2, (.inr (.inr (.inr (.inr (fun _ => none)))))))] : va_W), slW cy none]) [0, 2, 3, 4, 5, 6, 7, 1, 8] 9 rfl (by decide) rfl hP
  have hD := wl_Do (bs' := [([(x, .inr (4, [.ref (sa 0), .ref (ja 0), .ref (ta 0), .ref h, .ref q]))] : va_W), ([(h, .inr (0, [.ref g, .int (nI 0)]))] : va_W), ([(g, .inl (cy 3, 6, (.inr (.inr (.inr (.inr (q_rf [])))))))] : va_W), plW cy [], txW cy ta q_z0, joW cy ja q_z0, stW cy sa q_s0, ([(q, .inl (cy 3, 2, (.inr (.inr (.inr (.inr (fun _ => none)))))))] : va_W), slW cy none]) [0, 2, 3, 4, 5, 6, 7, 1, 8] 9 rfl (by decide) rfl hD
  refine lv_bipush (v := (-12)) hx hb dL_law_29 (by decide) ?_
  refine lv_icmp_ne (tgt := 108) hx hb dL_law_31 (by decide) (fun c8 => absurd rfl c8) (fun c8 => ?_)
  refine lv_aload_n hx hb dL_law_34 rfl (lv_at hl 0 rfl) ?_
  refine lv_bipush (v := 8) hx hb dL_law_35 (by decide) ?_
  refine lv_iconst (v := 2) hx hb dL_law_37 (by decide) ?_
  refine lv_iconst (v := 0) hx hb dL_law_38 (by decide) ?_
  refine wl_iSW (As := [.ref x, .int 8, .int 2, .int 0]) (rest := []) (bsC := [([(x, .inr (4, [.ref (sa 0), .ref (ja 0), .ref (ta 0), .ref h, .ref q]))] : va_W)]) (bsR := [([(h, .inr (0, [.ref g, .int (nI 0)]))] : va_W), ([(g, .inl (cy 3, 6, (.inr (.inr (.inr (.inr (q_rf [])))))))] : va_W), plW cy [], txW cy ta q_z0, joW cy ja q_z0, stW cy sa q_s0, ([(q, .inl (cy 3, 2, (.inr (.inr (.inr (.inr (fun _ => none)))))))] : va_W), slW cy none]) ⟨hx, hb, hml, hown, hts⟩ (b_c_goBack1 l hl0 D cy x sa ja ta h q 2 0 H.size (by decide)) (vx_cwSW 4 hts gL_law_L_call rfl rfl rfl (by decide +kernel) ⟨Nat.le_of_ble_eq_true rfl, Nat.le_of_ble_eq_true rfl⟩) wl_T9_b (fun U hU hW => wl_T9_w hU hW hS (wl_freeB (bsC := [([(x, .inr (4, [.ref (sa 0), .ref (ja 0), .ref (ta 0), .ref h, .ref q]))] : va_W)]) (bsR := [([(h, .inr (0, [.ref g, .int (nI 0)]))] : va_W), ([(g, .inl (cy 3, 6, (.inr (.inr (.inr (.inr (q_rf [])))))))] : va_W), plW cy [], txW cy ta q_z0, joW cy ja q_z0, stW cy sa q_s0, ([(q, .inl (cy 3, 2, (.inr (.inr (.inr (.inr (fun _ => none)))))))] : va_W), slW cy none]) hD hS hA) hX) hK hP hD hS hA rfl hl.1 rfl (Nat.le_of_ble_eq_true rfl) dL_law_39 ⟨(by show _ ≤ 600172; omega), (by show _ ≤ 7300668; omega)⟩ (fun r9 bs10 H locs e11 _ _ hP hD hS => ?_)
  obtain ⟨er9, e11⟩ : r9 = (-11) ∧ bs10 = [([(x, .inr (4, [.ref (sa 0), .ref (ja 0), .ref (ta 0), .ref h, .ref q]))] : va_W)] := e11
  subst e11
  subst er9
  refine W.widen (k := 21) (n := 413) (by omega) (by omega) ?_
  have hP : va_P D vwCl ([([(x, .inr (4, [.ref (sa 0), .ref (ja 0), .ref (ta 0), .ref h, .ref q]))] : va_W), ([(h, .inr (0, [.ref g, .int (nI 0)]))] : va_W), ([(g, .inl (cy 3, 6, (.inr (.inr (.inr (.inr (q_rf [])))))))] : va_W), plW cy [], txW cy ta q_z0, joW cy ja q_z0, stW cy sa q_s0, ([(q, .inl (cy 3, 2, (.inr (.inr (.inr (.inr (fun _ => none)))))))] : va_W), slW cy none] : List va_W).flatten H := hP
  have hD : va_D A ([([(x, .inr (4, [.ref (sa 0), .ref (ja 0), .ref (ta 0), .ref h, .ref q]))] : va_W), ([(h, .inr (0, [.ref g, .int (nI 0)]))] : va_W), ([(g, .inl (cy 3, 6, (.inr (.inr (.inr (.inr (q_rf [])))))))] : va_W), plW cy [], txW cy ta q_z0, joW cy ja q_z0, stW cy sa q_s0, ([(q, .inl (cy 3, 2, (.inr (.inr (.inr (.inr (fun _ => none)))))))] : va_W), slW cy none] : List va_W).flatten := hD
  refine lv_bipush (v := (-11)) hx hb dL_law_42 (by decide) ?_
  refine lv_icmp_ne (tgt := 108) hx hb dL_law_44 (by decide) (fun c12 => absurd rfl c12) (fun c12 => ?_)
  refine lv_aload_n hx hb dL_law_47 rfl (lv_at hl 0 rfl) ?_
  refine lv_iconst (v := 0) hx hb dL_law_48 (by decide) ?_
  have hP := wl_Po (bs' := [([(x, .inr (4, [.ref (sa 0), .ref (ja 0), .ref (ta 0), .ref h, .ref q]))] : va_W), txW cy ta q_z0, joW cy ja q_z0, stW cy sa q_s0, ([(h, .inr (0, [.ref g, .int (nI 0)]))] : va_W), ([(q, .inl (cy 3, 2, (.inr (.inr (.inr (.inr (fun _ => none)))))))] : va_W), ([(g, .inl (cy 3, 6, (.inr (.inr (.inr (.inr (q_rf [])))))))] : va_W), plW cy [], slW cy none]) [0, 4, 5, 6, 1, 7, 2, 3, 8] 9 rfl (by decide) rfl hP
  have hD := wl_Do (bs' := [([(x, .inr (4, [.ref (sa 0), .ref (ja 0), .ref (ta 0), .ref h, .ref q]))] : va_W), txW cy ta q_z0, joW cy ja q_z0, stW cy sa q_s0, ([(h, .inr (0, [.ref g, .int (nI 0)]))] : va_W), ([(q, .inl (cy 3, 2, (.inr (.inr (.inr (.inr (fun _ => none)))))))] : va_W), ([(g, .inl (cy 3, 6, (.inr (.inr (.inr (.inr (q_rf [])))))))] : va_W), plW cy [], slW cy none]) [0, 4, 5, 6, 1, 7, 2, 3, 8] 9 rfl (by decide) rfl hD
  refine wl_iS (As := [.ref x, .int 0]) (rest := []) (bsC := [([(x, .inr (4, [.ref (sa 0), .ref (ja 0), .ref (ta 0), .ref h, .ref q]))] : va_W), txW cy ta q_z0, joW cy ja q_z0, stW cy sa q_s0, ([(h, .inr (0, [.ref g, .int (nI 0)]))] : va_W), ([(q, .inl (cy 3, 2, (.inr (.inr (.inr (.inr (fun _ => none)))))))] : va_W)]) (bsR := [([(g, .inl (cy 3, 6, (.inr (.inr (.inr (.inr (q_rf [])))))))] : va_W), plW cy [], slW cy none]) ⟨hx, hb, hml, hown, hts⟩ (m_L_refuses l hl0 D cy x sa ja ta h q q_z0 q_s0 g (fun _ => none) 0 0 0 H.size rfl (by omega) (p_ok_s p_ok_s0) (by omega) (by omega)) (va_cwS 2 hts gL_law_L_refuses rfl rfl rfl (by decide +kernel) ⟨Nat.le_of_ble_eq_true rfl, Nat.le_of_ble_eq_true rfl⟩) wl_T9_b (fun U hU hW => wl_T9_w hU hW hS (wl_freeB (bsC := [([(x, .inr (4, [.ref (sa 0), .ref (ja 0), .ref (ta 0), .ref h, .ref q]))] : va_W), txW cy ta q_z0, joW cy ja q_z0, stW cy sa q_s0, ([(h, .inr (0, [.ref g, .int (nI 0)]))] : va_W), ([(q, .inl (cy 3, 2, (.inr (.inr (.inr (.inr (fun _ => none)))))))] : va_W)]) (bsR := [([(g, .inl (cy 3, 6, (.inr (.inr (.inr (.inr (q_rf [])))))))] : va_W), plW cy [], slW cy none]) hD hS hA) hX) hK hP hD hS hA rfl hl.1 rfl (Nat.le_of_ble_eq_true rfl) dL_law_49 ⟨(by show _ ≤ 600172; omega), (by show _ ≤ 7300668; omega)⟩ (fun r13 bs14 H locs e15 _ _ hP hD hS => ?_)
  obtain ⟨w116, er13, e15⟩ := e15
  have e15 : bs14 = [([(x, .inr (4, [.ref (sa 0), .ref (ja 0), .ref (ta 0), .ref h, .ref q]))] : va_W), txW cy ta q_z0, joW cy ja w116, stW cy sa q_s0, ([(h, .inr (0, [.ref g, .int (nI 0)]))] : va_W), ([(q, .inl (cy 3, 2, (.inr (.inr (.inr (.inr (fun _ => none)))))))] : va_W)] := e15
  subst e15
  have er13 : r13 = (if True then 1 else 0) := er13
  refine W.widen (k := 45) (n := 557) (by omega) (by omega) ?_
  have hP : va_P D vwCl ([([(x, .inr (4, [.ref (sa 0), .ref (ja 0), .ref (ta 0), .ref h, .ref q]))] : va_W), txW cy ta q_z0, joW cy ja w116, stW cy sa q_s0, ([(h, .inr (0, [.ref g, .int (nI 0)]))] : va_W), ([(q, .inl (cy 3, 2, (.inr (.inr (.inr (.inr (fun _ => none)))))))] : va_W), ([(g, .inl (cy 3, 6, (.inr (.inr (.inr (.inr (q_rf [])))))))] : va_W), plW cy [], slW cy none] : List va_W).flatten H := hP
  have hD : va_D A ([([(x, .inr (4, [.ref (sa 0), .ref (ja 0), .ref (ta 0), .ref h, .ref q]))] : va_W), txW cy ta q_z0, joW cy ja w116, stW cy sa q_s0, ([(h, .inr (0, [.ref g, .int (nI 0)]))] : va_W), ([(q, .inl (cy 3, 2, (.inr (.inr (.inr (.inr (fun _ => none)))))))] : va_W), ([(g, .inl (cy 3, 6, (.inr (.inr (.inr (.inr (q_rf [])))))))] : va_W), plW cy [], slW cy none] : List va_W).flatten := hD
  have hP := wl_Po (bs' := [([(x, .inr (4, [.ref (sa 0), .ref (ja 0), .ref (ta 0), .ref h, .ref q]))] : va_W), ([(h, .inr (0, [.ref g, .int (nI 0)]))] : va_W), ([(g, .inl (cy 3, 6, (.inr (.inr (.inr (.inr (q_rf [])))))))] : va_W), plW cy [], txW cy ta q_z0, joW cy ja w116, stW cy sa q_s0, ([(q, .inl (cy 3, 2, (.inr (.inr (.inr (.inr (fun _ => none)))))))] : va_W), slW cy none]) [0, 4, 6, 7, 1, 2, 3, 5, 8] 9 rfl (by decide) rfl hP
  have hD := wl_Do (bs' := [([(x, .inr (4, [.ref (sa 0), .ref (ja 0), .ref (ta 0), .ref h, .ref q]))] : va_W), ([(h, .inr (0, [.ref g, .int (nI 0)]))] : va_W), ([(g, .inl (cy 3, 6, (.inr (.inr (.inr (.inr (q_rf [])))))))] : va_W), plW cy [], txW cy ta q_z0, joW cy ja w116, stW cy sa q_s0, ([(q, .inl (cy 3, 2, (.inr (.inr (.inr (.inr (fun _ => none)))))))] : va_W), slW cy none]) [0, 4, 6, 7, 1, 2, 3, 5, 8] 9 rfl (by decide) rfl hD
  refine wl_b_eq (tgt := 108) hx hb True er13 dL_law_52 (by decide) (fun c17 => absurd trivial c17) (fun c17 => ?_)
  refine lv_aload_n hx hb dL_law_55 rfl (lv_at hl 0 rfl) ?_
  refine lv_iconst (v := 1) hx hb dL_law_56 (by decide) ?_
  have hP := wl_Po (bs' := [([(x, .inr (4, [.ref (sa 0), .ref (ja 0), .ref (ta 0), .ref h, .ref q]))] : va_W), txW cy ta q_z0, joW cy ja w116, stW cy sa q_s0, ([(h, .inr (0, [.ref g, .int (nI 0)]))] : va_W), ([(q, .inl (cy 3, 2, (.inr (.inr (.inr (.inr (fun _ => none)))))))] : va_W), ([(g, .inl (cy 3, 6, (.inr (.inr (.inr (.inr (q_rf [])))))))] : va_W), plW cy [], slW cy none]) [0, 4, 5, 6, 1, 7, 2, 3, 8] 9 rfl (by decide) rfl hP
  have hD := wl_Do (bs' := [([(x, .inr (4, [.ref (sa 0), .ref (ja 0), .ref (ta 0), .ref h, .ref q]))] : va_W), txW cy ta q_z0, joW cy ja w116, stW cy sa q_s0, ([(h, .inr (0, [.ref g, .int (nI 0)]))] : va_W), ([(q, .inl (cy 3, 2, (.inr (.inr (.inr (.inr (fun _ => none)))))))] : va_W), ([(g, .inl (cy 3, 6, (.inr (.inr (.inr (.inr (q_rf [])))))))] : va_W), plW cy [], slW cy none]) [0, 4, 5, 6, 1, 7, 2, 3, 8] 9 rfl (by decide) rfl hD
  refine wl_iS (As := [.ref x, .int 1]) (rest := []) (bsC := [([(x, .inr (4, [.ref (sa 0), .ref (ja 0), .ref (ta 0), .ref h, .ref q]))] : va_W), txW cy ta q_z0, joW cy ja w116, stW cy sa q_s0, ([(h, .inr (0, [.ref g, .int (nI 0)]))] : va_W), ([(q, .inl (cy 3, 2, (.inr (.inr (.inr (.inr (fun _ => none)))))))] : va_W)]) (bsR := [([(g, .inl (cy 3, 6, (.inr (.inr (.inr (.inr (q_rf [])))))))] : va_W), plW cy [], slW cy none]) ⟨hx, hb, hml, hown, hts⟩ (m_L_refuses l hl0 D cy x sa ja ta h q w116 q_s0 g (fun _ => none) 0 0 1 H.size rfl (by omega) (p_ok_s p_ok_s0) (by omega) (by omega)) (va_cwS 2 hts gL_law_L_refuses rfl rfl rfl (by decide +kernel) ⟨Nat.le_of_ble_eq_true rfl, Nat.le_of_ble_eq_true rfl⟩) wl_T9_b (fun U hU hW => wl_T9_w hU hW hS (wl_freeB (bsC := [([(x, .inr (4, [.ref (sa 0), .ref (ja 0), .ref (ta 0), .ref h, .ref q]))] : va_W), txW cy ta q_z0, joW cy ja w116, stW cy sa q_s0, ([(h, .inr (0, [.ref g, .int (nI 0)]))] : va_W), ([(q, .inl (cy 3, 2, (.inr (.inr (.inr (.inr (fun _ => none)))))))] : va_W)]) (bsR := [([(g, .inl (cy 3, 6, (.inr (.inr (.inr (.inr (q_rf [])))))))] : va_W), plW cy [], slW cy none]) hD hS hA) hX) hK hP hD hS hA rfl hl.1 rfl (Nat.le_of_ble_eq_true rfl) dL_law_57 ⟨(by show _ ≤ 600172; omega), (by show _ ≤ 7300668; omega)⟩ (fun r18 bs19 H locs e20 _ _ hP hD hS => ?_)
  obtain ⟨w121, er18, e20⟩ := e20
  have e20 : bs19 = [([(x, .inr (4, [.ref (sa 0), .ref (ja 0), .ref (ta 0), .ref h, .ref q]))] : va_W), txW cy ta q_z0, joW cy ja w121, stW cy sa q_s0, ([(h, .inr (0, [.ref g, .int (nI 0)]))] : va_W), ([(q, .inl (cy 3, 2, (.inr (.inr (.inr (.inr (fun _ => none)))))))] : va_W)] := e20
  subst e20
  have er18 : r18 = (if True then 1 else 0) := er18
  refine W.widen (k := 69) (n := 701) (by omega) (by omega) ?_
  have hP : va_P D vwCl ([([(x, .inr (4, [.ref (sa 0), .ref (ja 0), .ref (ta 0), .ref h, .ref q]))] : va_W), txW cy ta q_z0, joW cy ja w121, stW cy sa q_s0, ([(h, .inr (0, [.ref g, .int (nI 0)]))] : va_W), ([(q, .inl (cy 3, 2, (.inr (.inr (.inr (.inr (fun _ => none)))))))] : va_W), ([(g, .inl (cy 3, 6, (.inr (.inr (.inr (.inr (q_rf [])))))))] : va_W), plW cy [], slW cy none] : List va_W).flatten H := hP
  have hD : va_D A ([([(x, .inr (4, [.ref (sa 0), .ref (ja 0), .ref (ta 0), .ref h, .ref q]))] : va_W), txW cy ta q_z0, joW cy ja w121, stW cy sa q_s0, ([(h, .inr (0, [.ref g, .int (nI 0)]))] : va_W), ([(q, .inl (cy 3, 2, (.inr (.inr (.inr (.inr (fun _ => none)))))))] : va_W), ([(g, .inl (cy 3, 6, (.inr (.inr (.inr (.inr (q_rf [])))))))] : va_W), plW cy [], slW cy none] : List va_W).flatten := hD
  have hP := wl_Po (bs' := [([(x, .inr (4, [.ref (sa 0), .ref (ja 0), .ref (ta 0), .ref h, .ref q]))] : va_W), ([(h, .inr (0, [.ref g, .int (nI 0)]))] : va_W), ([(g, .inl (cy 3, 6, (.inr (.inr (.inr (.inr (q_rf [])))))))] : va_W), plW cy [], txW cy ta q_z0, joW cy ja w121, stW cy sa q_s0, ([(q, .inl (cy 3, 2, (.inr (.inr (.inr (.inr (fun _ => none)))))))] : va_W), slW cy none]) [0, 4, 6, 7, 1, 2, 3, 5, 8] 9 rfl (by decide) rfl hP
  have hD := wl_Do (bs' := [([(x, .inr (4, [.ref (sa 0), .ref (ja 0), .ref (ta 0), .ref h, .ref q]))] : va_W), ([(h, .inr (0, [.ref g, .int (nI 0)]))] : va_W), ([(g, .inl (cy 3, 6, (.inr (.inr (.inr (.inr (q_rf [])))))))] : va_W), plW cy [], txW cy ta q_z0, joW cy ja w121, stW cy sa q_s0, ([(q, .inl (cy 3, 2, (.inr (.inr (.inr (.inr (fun _ => none)))))))] : va_W), slW cy none]) [0, 4, 6, 7, 1, 2, 3, 5, 8] 9 rfl (by decide) rfl hD
  refine wl_b_eq (tgt := 108) hx hb True er18 dL_law_60 (by decide) (fun c22 => absurd trivial c22) (fun c22 => ?_)
  refine lv_aload_n hx hb dL_law_63 rfl (lv_at hl 0 rfl) ?_
  refine lv_bipush (v := 7) hx hb dL_law_64 (by decide) ?_
  refine lv_iconst (v := 1) hx hb dL_law_66 (by decide) ?_
  refine lv_iconst (v := 0) hx hb dL_law_67 (by decide) ?_
  have hP := wl_Po (bs' := [([(x, .inr (4, [.ref (sa 0), .ref (ja 0), .ref (ta 0), .ref h, .ref q]))] : va_W), ([(q, .inl (cy 3, 2, (.inr (.inr (.inr (.inr (fun _ => none)))))))] : va_W), stW cy sa q_s0, ([(h, .inr (0, [.ref g, .int (nI 0)]))] : va_W), ([(g, .inl (cy 3, 6, (.inr (.inr (.inr (.inr (q_rf [])))))))] : va_W), plW cy [], txW cy ta q_z0, joW cy ja w121, slW cy none]) [0, 7, 6, 1, 2, 3, 4, 5, 8] 9 rfl (by decide) rfl hP
  have hD := wl_Do (bs' := [([(x, .inr (4, [.ref (sa 0), .ref (ja 0), .ref (ta 0), .ref h, .ref q]))] : va_W), ([(q, .inl (cy 3, 2, (.inr (.inr (.inr (.inr (fun _ => none)))))))] : va_W), stW cy sa q_s0, ([(h, .inr (0, [.ref g, .int (nI 0)]))] : va_W), ([(g, .inl (cy 3, 6, (.inr (.inr (.inr (.inr (q_rf [])))))))] : va_W), plW cy [], txW cy ta q_z0, joW cy ja w121, slW cy none]) [0, 7, 6, 1, 2, 3, 4, 5, 8] 9 rfl (by decide) rfl hD
  refine wl_iSW (As := [.ref x, .int 7, .int 1, .int 0]) (rest := []) (bsC := [([(x, .inr (4, [.ref (sa 0), .ref (ja 0), .ref (ta 0), .ref h, .ref q]))] : va_W), ([(q, .inl (cy 3, 2, (.inr (.inr (.inr (.inr (fun _ => none)))))))] : va_W), stW cy sa q_s0]) (bsR := [([(h, .inr (0, [.ref g, .int (nI 0)]))] : va_W), ([(g, .inl (cy 3, 6, (.inr (.inr (.inr (.inr (q_rf [])))))))] : va_W), plW cy [], txW cy ta q_z0, joW cy ja w121, slW cy none]) ⟨hx, hb, hml, hown, hts⟩ (m_c_keepN l D cy x sa ja ta h q (fun _ => none) q_s0 1 0 0 H.size (by omega) rfl rfl) (vx_cwSW 4 hts gL_law_L_call rfl rfl rfl (by decide +kernel) ⟨Nat.le_of_ble_eq_true rfl, Nat.le_of_ble_eq_true rfl⟩) wl_T9_b (fun U hU hW => wl_T9_w hU hW hS (wl_freeB (bsC := [([(x, .inr (4, [.ref (sa 0), .ref (ja 0), .ref (ta 0), .ref h, .ref q]))] : va_W), ([(q, .inl (cy 3, 2, (.inr (.inr (.inr (.inr (fun _ => none)))))))] : va_W), stW cy sa q_s0]) (bsR := [([(h, .inr (0, [.ref g, .int (nI 0)]))] : va_W), ([(g, .inl (cy 3, 6, (.inr (.inr (.inr (.inr (q_rf [])))))))] : va_W), plW cy [], txW cy ta q_z0, joW cy ja w121, slW cy none]) hD hS hA) hX) hK hP hD hS hA rfl hl.1 rfl (Nat.le_of_ble_eq_true rfl) dL_law_68 ⟨(by show _ ≤ 600172; omega), (by show _ ≤ 7300668; omega)⟩ (fun r23 bs24 H locs e25 _ _ hP hD hS => ?_)
  obtain ⟨b26, er23, e25⟩ := e25
  have e25 : bs24 = [([(x, .inr (4, [.ref (sa 0), .ref (ja 0), .ref (ta 0), .ref h, .ref q]))] : va_W), ([(q, .inl (cy 3, 2, (.inr (.inr (.inr (.inr (va_up (fun _ => none) 1 (some (b26 0)))))))))] : va_W), stW cy b26 q_s0, stW cy sa q_s0] := e25
  subst e25
  have er23 : r23 = nI 0 := er23
  subst er23
  refine W.widen (k := 77) (n := 877) (by omega) (by omega) ?_
  have hP : va_P D vwCl ([([(x, .inr (4, [.ref (sa 0), .ref (ja 0), .ref (ta 0), .ref h, .ref q]))] : va_W), ([(q, .inl (cy 3, 2, (.inr (.inr (.inr (.inr (va_up (fun _ => none) 1 (some (b26 0)))))))))] : va_W), stW cy b26 q_s0, stW cy sa q_s0, ([(h, .inr (0, [.ref g, .int (nI 0)]))] : va_W), ([(g, .inl (cy 3, 6, (.inr (.inr (.inr (.inr (q_rf [])))))))] : va_W), plW cy [], txW cy ta q_z0, joW cy ja w121, slW cy none] : List va_W).flatten H := hP
  have hD : va_D A ([([(x, .inr (4, [.ref (sa 0), .ref (ja 0), .ref (ta 0), .ref h, .ref q]))] : va_W), ([(q, .inl (cy 3, 2, (.inr (.inr (.inr (.inr (va_up (fun _ => none) 1 (some (b26 0)))))))))] : va_W), stW cy b26 q_s0, stW cy sa q_s0, ([(h, .inr (0, [.ref g, .int (nI 0)]))] : va_W), ([(g, .inl (cy 3, 6, (.inr (.inr (.inr (.inr (q_rf [])))))))] : va_W), plW cy [], txW cy ta q_z0, joW cy ja w121, slW cy none] : List va_W).flatten := hD
  refine wl_if_ne (tgt := 108) hx hb 0 dL_law_71 (by decide) (by omega) (fun c27 => absurd c27 (by decide)) (fun c27 => ?_)
  refine lv_aload_n hx hb dL_law_74 rfl (lv_at hl 0 rfl) ?_
  refine lv_iconst (v := 0) hx hb dL_law_75 (by decide) ?_
  refine wl_pV (As := [.int 0]) (rest := []) ⟨hx, hb, hml, hown, hts⟩ (m_X4_setting l D cy x sa ja ta h q q_s0 0 (by omega)) (cwV 1 hts gL_law_X4_setting rfl rfl rfl (by decide +kernel) ⟨Nat.le_of_ble_eq_true rfl, Nat.le_of_ble_eq_true rfl⟩) hK hP [0, 3] rfl rfl rfl rfl rfl rfl hl.1 rfl (Nat.le_of_ble_eq_true rfl) dL_law_76 ⟨(by show _ ≤ 600172; omega), (by show _ ≤ 7300668; omega)⟩ (fun r28 er28 => ?_)
  have er28 : r28 = q_s0 5 0 := er28
  subst er28
  refine lv_bipush (v := 6) hx hb dL_law_79 (by decide) ?_
  refine lv_icmp_ne (tgt := 108) hx hb dL_law_81 (by decide) (fun c29 => absurd rfl c29) (fun c29 => ?_)
  refine lv_aload_n hx hb dL_law_84 rfl (lv_at hl 0 rfl) ?_
  refine lv_iconst (v := 1) hx hb dL_law_85 (by decide) ?_
  refine wl_pV (As := [.int 1]) (rest := []) ⟨hx, hb, hml, hown, hts⟩ (m_X4_setting l D cy x sa ja ta h q q_s0 1 (by omega)) (cwV 1 hts gL_law_X4_setting rfl rfl rfl (by decide +kernel) ⟨Nat.le_of_ble_eq_true rfl, Nat.le_of_ble_eq_true rfl⟩) hK hP [0, 3] rfl rfl rfl rfl rfl rfl hl.1 rfl (Nat.le_of_ble_eq_true rfl) dL_law_86 ⟨(by show _ ≤ 600172; omega), (by show _ ≤ 7300668; omega)⟩ (fun r30 er30 => ?_)
  have er30 : r30 = q_s0 5 1 := er30
  subst er30
  refine lv_iconst (v := 1) hx hb dL_law_89 (by decide) ?_
  refine lv_icmp_ne (tgt := 108) hx hb dL_law_90 (by decide) (fun c31 => absurd rfl c31) (fun c31 => ?_)
  refine lv_aload_n hx hb dL_law_93 rfl (lv_at hl 0 rfl) ?_
  refine lv_iconst (v := 2) hx hb dL_law_94 (by decide) ?_
  refine wl_pV (As := [.int 2]) (rest := []) ⟨hx, hb, hml, hown, hts⟩ (m_X4_setting l D cy x sa ja ta h q q_s0 2 (by omega)) (cwV 1 hts gL_law_X4_setting rfl rfl rfl (by decide +kernel) ⟨Nat.le_of_ble_eq_true rfl, Nat.le_of_ble_eq_true rfl⟩) hK hP [0, 3] rfl rfl rfl rfl rfl rfl hl.1 rfl (Nat.le_of_ble_eq_true rfl) dL_law_95 ⟨(by show _ ≤ 600172; omega), (by show _ ≤ 7300668; omega)⟩ (fun r32 er32 => ?_)
  have er32 : r32 = q_s0 5 2 := er32
  subst er32
  refine lv_sipush (v := 360) hx hb dL_law_98 (by decide) ?_
  refine lv_icmp_ne (tgt := 108) hx hb dL_law_101 (by decide) (fun c33 => absurd rfl c33) (fun c33 => ?_)
  refine lv_iconst (v := 1) hx hb dL_law_104 (by decide) ?_
  refine lv_goto (tgt := 109) hx hb dL_law_105 (by decide) ?_
  refine lv_istore_n (lv' := [(2, .int 1), (1, .ref x), (0, .ref b)]) hx hb dL_law_109 rfl hl (by decide) rfl (fun ls hl => ?_)
  refine lv_aload_n hx hb dL_law_110 rfl (lv_at hl 1 rfl) ?_
  refine wl_pSl (As := [.ref x]) (rest := []) ⟨hx, hb, hml, hown, hts⟩ (m_L_seen l D cy x sa ja ta h q q_s0 0 g 0 rfl (by omega)) (va_cwS 1 hts gL_law_L_seen rfl rfl rfl (by decide +kernel) ⟨Nat.le_of_ble_eq_true rfl, Nat.le_of_ble_eq_true rfl⟩) hK hP [0, 3, 4] rfl rfl hl.1 rfl (Nat.le_of_ble_eq_true rfl) dL_law_111 ⟨(by show _ ≤ 600172; omega), (by show _ ≤ 7300668; omega)⟩ (fun r34 er34 => ?_)
  have er34 : r34 = p_see q_s0 0 := er34
  subst er34
  refine lv_lstore_n (lv' := [(3, .long (p_see q_s0 0)), (2, .int 1), (1, .ref x), (0, .ref b)]) hx hb dL_law_114 rfl hl (by decide) rfl (fun ls hl => ?_)
  refine lv_iconst (v := 0) hx hb dL_law_115 (by decide) ?_
  refine lv_istore (lv' := [(5, .int 0), (3, .long (p_see q_s0 0)), (2, .int 1), (1, .ref x), (0, .ref b)]) hx hb dL_law_116 hl (by decide) rfl (fun ls hl => ?_)
  have hP := wl_Po (bs' := [([(x, .inr (4, [.ref (sa 0), .ref (ja 0), .ref (ta 0), .ref h, .ref q]))] : va_W), ([(h, .inr (0, [.ref g, .int (nI 0)]))] : va_W), ([(g, .inl (cy 3, 6, (.inr (.inr (.inr (.inr (q_rf [])))))))] : va_W), plW cy [], txW cy ta q_z0, joW cy ja w121, stW cy sa q_s0, ([(q, .inl (cy 3, 2, (.inr (.inr (.inr (.inr (va_up (fun _ => none) 1 (some (b26 0)))))))))] : va_W), slW cy none, stW cy b26 q_s0]) [0, 4, 5, 6, 7, 8, 3, 1, 9, 2] 10 rfl (by decide) rfl hP
  have hD := wl_Do (bs' := [([(x, .inr (4, [.ref (sa 0), .ref (ja 0), .ref (ta 0), .ref h, .ref q]))] : va_W), ([(h, .inr (0, [.ref g, .int (nI 0)]))] : va_W), ([(g, .inl (cy 3, 6, (.inr (.inr (.inr (.inr (q_rf [])))))))] : va_W), plW cy [], txW cy ta q_z0, joW cy ja w121, stW cy sa q_s0, ([(q, .inl (cy 3, 2, (.inr (.inr (.inr (.inr (va_up (fun _ => none) 1 (some (b26 0)))))))))] : va_W), slW cy none, stW cy b26 q_s0]) [0, 4, 5, 6, 7, 8, 3, 1, 9, 2] 10 rfl (by decide) rfl hD
  refine W.widen (k := 200 + 100 * 0) (n := 2000 + 1000 * 0) (by omega) (by omega) ?_
  exact p_loop (b1 := b26) hl0 ⟨hx, hb, hml, hown, hts, hXs, hbl, hK, hX, hLs, hA, hbA⟩ kend 61 0 [] 0 w121 q_s0 0 0 (va_up (fun _ => none) 1 (some (b26 0))) none H locs ls (by omega) (by omega) (by simp) (by simp) p_ok_s0 (by omega) rfl rfl hP hD hS (lv_sub hl [4, 3, 2, 1, 0] rfl)
