/-! THE LAW, from its entry -/
set_option maxHeartbeats 4000000 in
set_option maxRecDepth 100000 in
theorem q_W0 {cy : Nat → ClassId} {x : Nat} {sa ja ta : Nat → Nat} {h g q o : Nat} {a : Nat → Nat} : (q_W cy x sa ja ta h g q o ([], 0, q_z0, q_z0, q_s0, fun _ => none, fun _ => 0) ++ [moW cy a q_m0]).flatten = ([wXB x sa ja ta h q, wHB h g 0, wGB cy g (fun _ => none), txW cy ta q_z0, joW cy ja q_z0, stW cy sa q_s0, wQB cy q (fun _ => none), wOB cy o (fun _ => 0), moW cy a q_m0] : List va_W).flatten := by
  have e1 : q_rf [] = (fun _ => none) := by
    funext k
    simp [q_rf]
  have e2 : slF (fun _ => none) = (fun _ => none) := by
    funext k
    rfl
  simp [q_W, e1, e2, plW, slW]
set_option maxHeartbeats 8000000 in
set_option maxRecDepth 100000 in
theorem whole_start {p : Program} {e : Env} {s : State} {m : MethodId} {below : List Frame} {meth : Method} {c : Code} (l : Launch) (hflags : l.flags = flags0) {b L : Nat} {xs : Nat → Int32} (hL : L ≤ 1536) (C0 : lw_At p s m meth c b L xs) : W p l e room_1 s m #[Value.ref b] below meth c s.heap [] 0 0 (lw_Z below #[Value.ref b] s) (entryFrame m ([Value.ref b] : List Value).toArray 9) := by
  obtain ⟨hx, hb, hr, hml, hown, hts, hX, hbl, hlocks, hgv⟩ := C0
  have hl0 : l.stackTraces = false := by
    unfold Launch.stackTraces
    rw [hflags]
    decide +kernel
  obtain ⟨D, cy, hK⟩ := q_mkK hts
  have hT := q_mkT hts hgv
  have htsL : ∀ w ∈ wsL_law, w.before #[Value.ref b] s = true := fun w h => hts w (wsL_law_in w h)
  have hA : ∀ q : Nat, s.heap.size ≤ q → (fun q : Nat => s.heap.size ≤ q) q := fun _ h => h
  have hS : va_S (fun q : Nat => s.heap.size ≤ q) s.heap s.heap [] := va_S.rf
  have hP : va_P D vwCl ([] : List va_W).flatten s.heap := fun k q h => by simp at h
  have hD : va_D (fun q : Nat => s.heap.size ≤ q) ([] : List va_W).flatten := ⟨fun i j p q h => by simp at h, fun k q h => by simp at h⟩
  have hl := lv_entry ([.ref b]) (n := 9) (Nat.le_of_ble_eq_true rfl)
  rw [lg_entry_eq]
  generalize (lg_sl ([.ref b]) ++ List.replicate (9 - (lg_sl ([.ref b])).length) Slot.unset).toArray = ls at hl ⊢
  have hl : lv_has ls 9 [(0, .ref b)] := hl
  refine wl_new (C := RX4) (T := TX4) (N := 5) (ci := 4) hx hb hts inX4 tyX4 tyX4_ok hown (hts (.classLink RL 8 RX4) (by decide +kernel)) (hts (.instantiable RX4 5) (by decide +kernel)) (hts (.initialized RX4) (by decide +kernel)) hK hP hD hS hA rfl [.null, .null, .null, .null, .null] (by decide +kernel) (Nat.le_of_ble_eq_true rfl) (Nat.le_of_ble_eq_true rfl) dL_law_0 (fun x H hP hD hS => ?_)
  refine W.widen (k := 1) (n := 5) (Nat.le_refl _) (Nat.le_refl _) ?_
  have hP : va_P D vwCl ([([(x, .inr (4, [.null, .null, .null, .null, .null]))] : va_W)] ++ [] : List va_W).flatten H := hP
  have hD : va_D (fun q : Nat => s.heap.size ≤ q) ([([(x, .inr (4, [.null, .null, .null, .null, .null]))] : va_W)] ++ [] : List va_W).flatten := hD
  refine lv_dup hx hb dL_law_3 rfl ?_
  refine wl_iI (As := []) (rest := [.ref x]) (bsC := [([(x, .inr (4, [.null, .null, .null, .null, .null]))] : va_W)]) (bsR := []) ⟨hx, hb, hml, hown, htsL⟩ (m_X4_init l D cy x H.size) (cwI 0 htsL gL_law_X4_init rfl rfl rfl (hts (.initialized RX4) (by decide +kernel)) (hts (.methodLink RL 72 yX4_init) (by decide +kernel)) (hts (.instanceMethod yX4_init) (by decide +kernel)) rfl (by decide +kernel) ⟨Nat.le_of_ble_eq_true rfl, Nat.le_of_ble_eq_true rfl⟩) wl_E_b (fun U _ hW => wl_E_w hW hT.1.1) hK hP hD hS hA rfl hl.1 rfl (Nat.le_of_ble_eq_true rfl) dL_law_4 ⟨Nat.le_of_ble_eq_true rfl, Nat.le_of_ble_eq_true rfl⟩ (fun bs1 H locs e3 _ _ hP hD hS => ?_)
  obtain ⟨sa, ja, ta, h, g, q, e3⟩ := e3
  have e3 : bs1 = [wXB x sa ja ta h q, stW cy sa q_s0, joW cy ja q_z0, txW cy ta q_z0, wHB h g 0, wGB cy g (fun _ => none), wQB cy q (fun _ => none)] := e3
  subst e3
  refine W.widen (k := 18) (n := 395) (Nat.le_refl _) (Nat.le_refl _) ?_
  have hP : va_P D vwCl ([wXB x sa ja ta h q, stW cy sa q_s0, joW cy ja q_z0, txW cy ta q_z0, wHB h g 0, wGB cy g (fun _ => none), wQB cy q (fun _ => none)] : List va_W).flatten H := by
    rw [List.append_nil] at hP
    exact hP
  have hD : va_D (fun q : Nat => s.heap.size ≤ q) ([wXB x sa ja ta h q, stW cy sa q_s0, joW cy ja q_z0, txW cy ta q_z0, wHB h g 0, wGB cy g (fun _ => none), wQB cy q (fun _ => none)] : List va_W).flatten := by
    rw [List.append_nil] at hD
    exact hD
  refine lv_astore_n (lv' := [(1, .ref x), (0, .ref b)]) hx hb dL_law_7 rfl hl (by decide) rfl (fun ls hl => ?_)
  refine wl_new (C := RX5) (T := TX5) (N := 13) (ci := 5) hx hb hts inX5 tyX5 tyX5_ok hown (hts (.classLink RL 73 RX5) (by decide +kernel)) (hts (.instantiable RX5 13) (by decide +kernel)) (hts (.initialized RX5) (by decide +kernel)) hK hP hD hS hA rfl [.null, .null, .int 0, .null, .null, .null, .int 0, .int 0, .int 0, .null, .int 0, .int 0, .int 0] (by decide +kernel) (Nat.le_of_ble_eq_true rfl) (Nat.le_of_ble_eq_true rfl) dL_law_8 (fun y H hP hD hS => ?_)
  refine W.widen (k := 19) (n := 408) (Nat.le_refl _) (Nat.le_refl _) ?_
  obtain ⟨hP, hD⟩ := q_swap hP hD
  refine lv_dup hx hb dL_law_11 rfl ?_
  refine wl_iI (As := []) (rest := [.ref y]) (bsC := [([(y, .inr (5, [.null, .null, .int 0, .null, .null, .null, .int 0, .int 0, .int 0, .null, .int 0, .int 0, .int 0]))] : va_W)]) (bsR := [wXB x sa ja ta h q, stW cy sa q_s0, joW cy ja q_z0, txW cy ta q_z0, wHB h g 0, wGB cy g (fun _ => none), wQB cy q (fun _ => none)]) ⟨hx, hb, hml, hown, htsL⟩ (m_X5_init l D cy y H.size) (cwI 0 htsL gL_law_X5_init rfl rfl rfl (hts (.initialized RX5) (by decide +kernel)) (hts (.methodLink RL 75 yX5_init) (by decide +kernel)) (hts (.instanceMethod yX5_init) (by decide +kernel)) rfl (by decide +kernel) ⟨Nat.le_of_ble_eq_true rfl, Nat.le_of_ble_eq_true rfl⟩) wl_xT (fun _ _ _ => trivial) hK hP hD hS hA rfl hl.1 rfl (Nat.le_of_ble_eq_true rfl) dL_law_12 ⟨Nat.le_of_ble_eq_true rfl, Nat.le_of_ble_eq_true rfl⟩ (fun bs1 H locs e3 _ _ hPn hDn hS => ?_)
  obtain ⟨a, ea, e3⟩ := e3
  subst e3 ea
  refine W.widen (k := 25) (n := 2010) (Nat.le_refl _) (Nat.le_refl _) ?_
  have hP : va_P D vwCl ([moW cy a q_m0, wXB x sa ja ta h q, stW cy sa q_s0, joW cy ja q_z0, txW cy ta q_z0, wHB h g 0, wGB cy g (fun _ => none), wQB cy q (fun _ => none)] : List va_W).flatten H := hPn
  have hD : va_D (fun q : Nat => s.heap.size ≤ q) ([moW cy a q_m0, wXB x sa ja ta h q, stW cy sa q_s0, joW cy ja q_z0, txW cy ta q_z0, wHB h g 0, wGB cy g (fun _ => none), wQB cy q (fun _ => none)] : List va_W).flatten := hDn
  refine lv_astore_n (lv' := [(2, .ref (a 0)), (1, .ref x), (0, .ref b)]) hx hb dL_law_15 rfl hl (by decide) rfl (fun ls hl => ?_)
  refine lv_iconst (v := 1) hx hb dL_law_16 (by decide) ?_
  refine wl_newal hx hb (hts (.arrayClass .long) (by decide +kernel)) hK hP hD hS hA 1 (Nat.le_of_ble_eq_true rfl) (Nat.le_of_ble_eq_true rfl) (Nat.le_of_ble_eq_true rfl) dL_law_17 (fun o H hP hD hS => ?_)
  have hP : va_P D vwCl ([moW cy a q_m0, wXB x sa ja ta h q, stW cy sa q_s0, joW cy ja q_z0, txW cy ta q_z0, wHB h g 0, wGB cy g (fun _ => none), wQB cy q (fun _ => none), wOB cy o (fun _ => 0)] : List va_W).flatten H := hP
  have hD : va_D (fun q : Nat => s.heap.size ≤ q) ([moW cy a q_m0, wXB x sa ja ta h q, stW cy sa q_s0, joW cy ja q_z0, txW cy ta q_z0, wHB h g 0, wGB cy g (fun _ => none), wQB cy q (fun _ => none), wOB cy o (fun _ => 0)] : List va_W).flatten := hD
  have hp := (wl_perm (bs := [moW cy a q_m0, wXB x sa ja ta h q, stW cy sa q_s0, joW cy ja q_z0, txW cy ta q_z0, wHB h g 0, wGB cy g (fun _ => none), wQB cy q (fun _ => none), wOB cy o (fun _ => 0)]) (bs' := [wXB x sa ja ta h q, wHB h g 0, wGB cy g (fun _ => none), txW cy ta q_z0, joW cy ja q_z0, stW cy sa q_s0, wQB cy q (fun _ => none), wOB cy o (fun _ => 0), moW cy a q_m0]) [1, 5, 6, 4, 3, 2, 7, 8, 0] 9 rfl (by decide) rfl).flatten
  rw [← q_W0] at hp
  have hP := wl_Pp hp hP
  have hD := wl_Dp hp hD
  refine lv_astore_n (lv' := [(3, .ref o), (2, .ref (a 0)), (1, .ref x), (0, .ref b)]) hx hb dL_law_19 rfl hl (by decide) rfl (fun ls hl => ?_)
  refine lv_iconst (v := 0) hx hb dL_law_20 (by decide) ?_
  refine lv_istore (lv' := [(4, .int (nI (3 * 0))), (3, .ref o), (2, .ref (a 0)), (1, .ref x), (0, .ref b)]) hx hb dL_law_21 hl (by decide) rfl (fun ls hl => ?_)
  refine W.widen (k := 1000 + 8 * 0) (n := 10000 + 176 * 0) (Nat.le_of_ble_eq_true rfl) (Nat.le_of_ble_eq_true rfl) ?_
  refine q_loop hl0 ⟨hx, hb, hml, hown, htsL, hX, hbl, hK, hT, hL⟩ (fun H locs ls hS => ?_) (L + 1) 0 ([], 0, q_z0, q_z0, q_s0, fun _ => none, fun _ => 0) q_m0 H locs ls (by omega) (by omega) q_I0 hP hD hS (lv_sub hl [4, 3, 2, 1, 0] rfl)
  refine lv_iconst (v := 1) hx hb dL_law_1322 (by decide) ?_
  refine va_forget hS.2.2 ?_
  exact W.base (lw_ret (Drawn.sameBut.refl s.drawn lw_cs) hx hb hr hlocks dL_law_1323)
