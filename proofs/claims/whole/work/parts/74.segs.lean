/-! THE LAW: one call, from its case to the loop's end -/
/-- what holds in the law: the machine, its code, the words, the script, the classes, what throwing asks -/
def q_C (p : Program) (s : State) (m : MethodId) (c : Code) (b Ls : Nat) (xs : Nat → Int32) (D : va_G) (cy : Nat → ClassId) : Prop := p.tables.exec = Jvm.exec ∧ c.code = cL_law ∧ c.maxLocals = 9 ∧ s.vm.findClass RL = some m.cls ∧ (∀ w ∈ wsL_law, w.before #[Value.ref b] s = true) ∧ va_X b Ls xs s s.heap ∧ b < s.heap.size ∧ va_K D vwCl (tyE cy) s ∧ wl_T9 (fun q : Nat => s.heap.size ≤ q) s ∧ Ls ≤ 1536
theorem q_room {rm : Room} {maxL : Nat} (h1 : rm.frames ≤ 9) (h2 : rm.locals ≤ 300) (hm : maxL ≤ 9) : rm.frames + 1 ≤ room_1.frames ∧ 8 + (maxL + 11) + rm.locals ≤ room_1.locals := by
  refine ⟨?_, ?_⟩
  · show rm.frames + 1 ≤ 11
    omega
  · show 8 + (maxL + 11) + rm.locals ≤ 392
    omega
theorem q_swap {D : va_G} {A : Nat → Prop} {b1 b2 : List va_W} {H : Heap} (hP : va_P D vwCl (b1 ++ b2).flatten H) (hD : va_D A (b1 ++ b2).flatten) : va_P D vwCl (b2 ++ b1).flatten H ∧ va_D A (b2 ++ b1).flatten :=
  ⟨wl_Pp (List.perm_append_comm).flatten hP, wl_Dp (List.perm_append_comm).flatten hD⟩
set_option maxHeartbeats 4000000 in
set_option maxRecDepth 100000 in
theorem q_seg2 {p : Program} {l : Launch} {e : Env} {s : State} {m : MethodId} {below : List Frame} {meth : Method} {c : Code} {b Ls : Nat} {xs : Nat → Int32} {D : va_G} {cy : Nat → ClassId} {x : Nat} {sa ja ta : Nat → Nat} {h g q o : Nat} {a : Nat → Nat} {Q : State → Prop} {S : q_S} {u : Nat → Nat → Int32} {i : Nat} {H : Heap} {locs : List Loc} {cells slots : Nat} {ls : Array Slot} {yL yR : MethodName} {wsL wsR : List Cond} {bytesL bytesR : ByteArray} {maxL maxR iW iR : Nat} {hh : List (Nat × Nat × Nat × Nat)} (C : q_C p s m c b Ls xs D cy) (hi : i + 2 < Ls) (hop : q_Op l D cy x sa ja ta h g q o a [.int (xs (i + 1)), .int (xs (i + 2))] yL wsL yR wsR S u)
    (cwL : ∀ rm : Room, rm.frames ≤ 9 → rm.locals ≤ 300 → vx_CSW room_1 s #[Value.ref b] RL iW yL bytesL maxL (some .int) hh wsL rm rm.cells rm.slots 4) (cwR : ∀ rm : Room, rm.frames ≤ 9 → rm.locals ≤ 300 → rm.cells = 0 → rm.slots = 0 → CallW room_1 s #[Value.ref b] RL RX5 iR yR bytesR maxR (some .int) wsR rm 0 0 2) (p0 : Nat) (off9 : Int) (hoff : ((p0 + 65 : Nat) : Int) + off9 = 1316)
    (d0 : decode cL_law (p0 + 0) = .ok (.aload_n 1, 1)) (d1 : decode cL_law (p0 + 1) = .ok (.aload_n 0, 1)) (d2 : decode cL_law (p0 + 2) = .ok (.iload 4, 2)) (d4 : decode cL_law (p0 + 4) = .ok (.iconst 1, 1)) (d5 : decode cL_law (p0 + 5) = .ok (.iadd, 1)) (d6 : decode cL_law (p0 + 6) = .ok (.iaload, 1)) (d7 : decode cL_law (p0 + 7) = .ok (.aload_n 0, 1)) (d8 : decode cL_law (p0 + 8) = .ok (.iload 4, 2)) (d10 : decode cL_law (p0 + 10) = .ok (.iconst 2, 1)) (d11 : decode cL_law (p0 + 11) = .ok (.iadd, 1)) (d12 : decode cL_law (p0 + 12) = .ok (.iaload, 1)) (d13 : decode cL_law (p0 + 13) = .ok (.aload_n 3, 1)) (d14 : decode cL_law (p0 + 14) = .ok (.invokestatic iW, 3)) (d17 : decode cL_law (p0 + 17) = .ok (.istore 5, 2)) (d19 : decode cL_law (p0 + 19) = .ok (.aload_n 2, 1)) (d20 : decode cL_law (p0 + 20) = .ok (.aload_n 0, 1)) (d21 : decode cL_law (p0 + 21) = .ok (.iload 4, 2)) (d23 : decode cL_law (p0 + 23) = .ok (.iconst 1, 1)) (d24 : decode cL_law (p0 + 24) = .ok (.iadd, 1)) (d25 : decode cL_law (p0 + 25) = .ok (.iaload, 1)) (d26 : decode cL_law (p0 + 26) = .ok (.aload_n 0, 1)) (d27 : decode cL_law (p0 + 27) = .ok (.iload 4, 2)) (d29 : decode cL_law (p0 + 29) = .ok (.iconst 2, 1)) (d30 : decode cL_law (p0 + 30) = .ok (.iadd, 1)) (d31 : decode cL_law (p0 + 31) = .ok (.iaload, 1)) (d32 : decode cL_law (p0 + 32) = .ok (.invokevirtual iR, 3)) (d35 : decode cL_law (p0 + 35) = .ok (.istore 6, 2)) (d37 : decode cL_law (p0 + 37) = .ok (.aload_n 2, 1)) (d38 : decode cL_law (p0 + 38) = .ok (.invokevirtual 82, 3)) (d41 : decode cL_law (p0 + 41) = .ok (.iload 5, 2)) (d43 : decode cL_law (p0 + 43) = .ok (.if_icmp .eq 5, 3)) (d48 : decode cL_law (p0 + 48) = .ok (.iload 5, 2)) (d50 : decode cL_law (p0 + 50) = .ok (.ifCond .ne 15, 3)) (d53 : decode cL_law (p0 + 53) = .ok (.aload_n 3, 1)) (d54 : decode cL_law (p0 + 54) = .ok (.iconst 0, 1)) (d55 : decode cL_law (p0 + 55) = .ok (.laload, 1)) (d56 : decode cL_law (p0 + 56) = .ok (.iload 6, 2)) (d58 : decode cL_law (p0 + 58) = .ok (.i2l, 1)) (d59 : decode cL_law (p0 + 59) = .ok (.lcmp, 1)) (d60 : decode cL_law (p0 + 60) = .ok (.ifCond .eq 5, 3)) (d65 : decode cL_law (p0 + 65) = .ok (.goto off9, 3))
    (hcl : cells + 8 ≤ 601024 ∧ slots + 176 ≤ 7293034) (hP : va_P D vwCl (q_W cy x sa ja ta h g q o S ++ [moW cy a u]).flatten H) (hD : va_D (fun q : Nat => s.heap.size ≤ q) (q_W cy x sa ja ta h g q o S ++ [moW cy a u]).flatten) (hS : va_S (fun q : Nat => s.heap.size ≤ q) s.heap H locs) (hl : lv_has ls 9 [(0, .ref b), (1, .ref x), (2, .ref (a 0)), (3, .ref o), (4, .int (nI i))])
    (kk : ∀ (S' : q_S) (u' : Nat → Nat → Int32) (H : Heap) (locs : List Loc) (ls : Array Slot), q_I S' u' → va_P D vwCl (q_W cy x sa ja ta h g q o S' ++ [moW cy a u']).flatten H → va_D (fun q : Nat => s.heap.size ≤ q) (q_W cy x sa ja ta h g q o S' ++ [moW cy a u']).flatten → va_S (fun q : Nat => s.heap.size ≤ q) s.heap H locs → lv_has ls 9 [(0, .ref b), (1, .ref x), (2, .ref (a 0)), (3, .ref o), (4, .int (nI i))] → W p l e room_1 s m #[Value.ref b] below meth c H locs (cells + 8) (slots + 176) Q (F0 m 1316 ls [])) : W p l e room_1 s m #[Value.ref b] below meth c H locs cells slots Q (F0 m p0 ls []) := by
  obtain ⟨hx, hb, hml, hown, hts, hX, hbl, hK, hT, hLs⟩ := C
  have hA : ∀ q : Nat, s.heap.size ≤ q → (fun q : Nat => s.heap.size ≤ q) q := fun _ h => h
  have hbA : ¬ (fun q : Nat => s.heap.size ≤ q) b := Nat.not_le.mpr hbl
  obtain ⟨r0, b0, P, PU, rm, rmR, ⟨f1, f2, f3, f4⟩, ⟨g1, g2, g3, g4⟩, hM, hMR, hfin⟩ := hop
  have hcell : cells + rm.cells ≤ 601024 := by omega
  have hslot : slots + rm.slots ≤ 7293034 := by omega
  refine lv_aload_n hx hb d0 rfl (lv_at hl 1 rfl) ?_
  refine lv_aload_n hx hb d1 rfl (lv_at hl 0 rfl) ?_
  refine lv_iload hx hb d2 (lv_at hl 4 rfl) ?_
  refine lv_iconst (v := 1) hx hb d4 (by decide) ?_
  refine lv_iadd hx hb d5 ?_
  refine wl_top (y := nI (i + 1)) (nI_add i 1) ?_
  refine va_sld hx hb hX hbl hbA hS (vp_in_nI (by omega) (by omega)) d6 ?_
  refine wl_top (y := xs (i + 1)) (by rw [nI_clamp (by omega)]) ?_
  refine lv_aload_n hx hb d7 rfl (lv_at hl 0 rfl) ?_
  refine lv_iload hx hb d8 (lv_at hl 4 rfl) ?_
  refine lv_iconst (v := 2) hx hb d10 (by decide) ?_
  refine lv_iadd hx hb d11 ?_
  refine wl_top (y := nI (i + 2)) (nI_add i 2) ?_
  refine va_sld hx hb hX hbl hbA hS (vp_in_nI (by omega) (by omega)) d12 ?_
  refine wl_top (y := xs (i + 2)) (by rw [nI_clamp (by omega)]) ?_
  refine lv_aload_n hx hb d13 rfl (lv_at hl 3 rfl) ?_
  refine wl_iSW (As := .ref x :: ([.int (xs (i + 1)), .int (xs (i + 2))] ++ [.ref o])) (rest := []) (bsC := q_W cy x sa ja ta h g q o S) (bsR := [moW cy a u]) ⟨hx, hb, hml, hown, hts⟩ (hM H.size) (cwL rm f1 f2) wl_T9_b (fun U hU hW => wl_T9_w hU hW hS (wl_freeB hD hS hA) hT) hK hP hD hS hA rfl hl.1 rfl (Nat.le_of_ble_eq_true rfl) d14 ⟨hcell, hslot⟩ (fun r bs1 H locs hpost _ _ hP hD hS => ?_)
  obtain ⟨S', er, eb, hPS⟩ := hpost
  subst er eb
  refine W.widen (k := cells + 8) (n := slots + 176) (by omega) (by omega) ?_
  obtain ⟨hP, hD⟩ := q_swap hP hD
  refine lv_istore (lv' := (5, .int r) :: [(0, .ref b), (1, .ref x), (2, .ref (a 0)), (3, .ref o), (4, .int (nI i))]) hx hb d17 hl (by decide) rfl (fun ls hl => ?_)
  refine lv_aload_n hx hb d19 rfl (lv_at hl 3 rfl) ?_
  refine lv_aload_n hx hb d20 rfl (lv_at hl 1 rfl) ?_
  refine lv_iload hx hb d21 (lv_at hl 5 rfl) ?_
  refine lv_iconst (v := 1) hx hb d23 (by decide) ?_
  refine lv_iadd hx hb d24 ?_
  refine wl_top (y := nI (i + 1)) (nI_add i 1) ?_
  refine va_sld hx hb hX hbl hbA hS (vp_in_nI (by omega) (by omega)) d25 ?_
  refine wl_top (y := xs (i + 1)) (by rw [nI_clamp (by omega)]) ?_
  refine lv_aload_n hx hb d26 rfl (lv_at hl 1 rfl) ?_
  refine lv_iload hx hb d27 (lv_at hl 5 rfl) ?_
  refine lv_iconst (v := 2) hx hb d29 (by decide) ?_
  refine lv_iadd hx hb d30 ?_
  refine wl_top (y := nI (i + 2)) (nI_add i 2) ?_
  refine va_sld hx hb hX hbl hbA hS (vp_in_nI (by omega) (by omega)) d31 ?_
  refine wl_top (y := xs (i + 2)) (by rw [nI_clamp (by omega)]) ?_
  refine wl_iV (As := [.int (xs (i + 1)), .int (xs (i + 2))]) (rest := []) (bsC := [moW cy a u]) (bsR := q_W cy x sa ja ta h g q o S') ⟨hx, hb, hml, hown, hts⟩ (hMR H.size) (cwR rmR g1 g2 g3 g4) wl_xT (fun _ _ _ => trivial) hK hP hD hS hA rfl rfl rfl rfl rfl hl.1 rfl (Nat.le_of_ble_eq_true rfl) d32 ⟨hcl.1, hcl.2⟩ (fun r2 bs2 H locs hpost _ _ hP hD hS => ?_)
  obtain ⟨u', er, eb, hPU⟩ := hpost
  subst er eb
  obtain ⟨hI, h62, h9⟩ := hfin S' u' hPS hPU
  refine lv_istore (lv' := (6, .int r2) :: (5, .int r) :: [(0, .ref b), (1, .ref x), (2, .ref (a 0)), (3, .ref o), (4, .int (nI i))]) hx hb d35 hl (by decide) rfl (fun ls hl => ?_)
  refine lv_aload_n hx hb d37 rfl (lv_at hl 4 rfl) ?_
  refine wl_pV (As := []) (rest := []) (bsC := [moW cy a u']) ⟨hx, hb, hml, hown, hts⟩ (m_X5_thrown l D cy a u') (cwV 0 hts gL_law_X5_thrown rfl rfl rfl (by decide +kernel) ⟨Nat.le_of_ble_eq_true rfl, Nat.le_of_ble_eq_true rfl⟩) hK hP [0] rfl rfl rfl rfl rfl rfl hl.1 rfl (Nat.le_of_ble_eq_true rfl) d38 ⟨hcl.1, hcl.2⟩ (fun r3 er3 => ?_)
  have er3 : r3 = r := Eq.trans er3 h62
  subst er3
  refine lv_iload hx hb d41 (lv_at hl 1 rfl) ?_
  refine lv_icmp_eq (tgt := p0 + 48) hx hb d43 (by omega) (fun _ => ?_) (fun hn => absurd rfl hn)
  obtain ⟨hP, hD⟩ := q_swap hP hD
  have K : W p l e room_1 s m #[Value.ref b] below meth c H locs (cells + 8) (slots + 176) Q (F0 m (p0 + 65) ls []) := by
    refine lv_goto (tgt := 1316) hx hb d65 hoff ?_
    exact kk S' u' H locs ls hI hP hD hS (lv_sub hl [2, 3, 4, 5, 6] rfl)
  refine lv_iload hx hb d48 (lv_at hl 1 rfl) ?_
  refine lv_if_ne (tgt := p0 + 65) hx hb d50 (by omega) (fun _ => K) (fun h0 => ?_)
  refine lv_aload_n hx hb d53 rfl (lv_at hl 5 rfl) ?_
  refine lv_iconst (v := 0) hx hb d54 (by decide) ?_
  refine wl_lald hx hb hK hP 10 0 rfl rfl 0 (by omega) (Nat.le_of_ble_eq_true rfl) d55 ?_
  refine lv_iload hx hb d56 (lv_at hl 0 rfl) ?_
  refine lv_i2l (v := Int32.toInt64 r2) hx hb d58 rfl ?_
  refine W.lcmp hx hb d59 ?_
  refine lv_if_eq (tgt := p0 + 65) hx hb d60 (by omega) (fun _ => K) (fun hn => absurd ((lg_cmp_eq _ _).mpr (h9 h0)) hn)
set_option maxHeartbeats 4000000 in
set_option maxRecDepth 100000 in
theorem q_seg1 {p : Program} {l : Launch} {e : Env} {s : State} {m : MethodId} {below : List Frame} {meth : Method} {c : Code} {b Ls : Nat} {xs : Nat → Int32} {D : va_G} {cy : Nat → ClassId} {x : Nat} {sa ja ta : Nat → Nat} {h g q o : Nat} {a : Nat → Nat} {Q : State → Prop} {S : q_S} {u : Nat → Nat → Int32} {i : Nat} {H : Heap} {locs : List Loc} {cells slots : Nat} {ls : Array Slot} {yL yR : MethodName} {wsL wsR : List Cond} {bytesL bytesR : ByteArray} {maxL maxR iW iR : Nat} {hh : List (Nat × Nat × Nat × Nat)} (C : q_C p s m c b Ls xs D cy) (hi : i + 1 < Ls) (hop : q_Op l D cy x sa ja ta h g q o a [.int (xs (i + 1))] yL wsL yR wsR S u)
    (cwL : ∀ rm : Room, rm.frames ≤ 9 → rm.locals ≤ 300 → vx_CSW room_1 s #[Value.ref b] RL iW yL bytesL maxL (some .int) hh wsL rm rm.cells rm.slots 3) (cwR : ∀ rm : Room, rm.frames ≤ 9 → rm.locals ≤ 300 → rm.cells = 0 → rm.slots = 0 → CallW room_1 s #[Value.ref b] RL RX5 iR yR bytesR maxR (some .int) wsR rm 0 0 1) (p0 : Nat) (off9 : Int) (hoff : ((p0 + 53 : Nat) : Int) + off9 = 1316)
    (d0 : decode cL_law (p0 + 0) = .ok (.aload_n 1, 1)) (d1 : decode cL_law (p0 + 1) = .ok (.aload_n 0, 1)) (d2 : decode cL_law (p0 + 2) = .ok (.iload 4, 2)) (d4 : decode cL_law (p0 + 4) = .ok (.iconst 1, 1)) (d5 : decode cL_law (p0 + 5) = .ok (.iadd, 1)) (d6 : decode cL_law (p0 + 6) = .ok (.iaload, 1)) (d7 : decode cL_law (p0 + 7) = .ok (.aload_n 3, 1)) (d8 : decode cL_law (p0 + 8) = .ok (.invokestatic iW, 3)) (d11 : decode cL_law (p0 + 11) = .ok (.istore 5, 2)) (d13 : decode cL_law (p0 + 13) = .ok (.aload_n 2, 1)) (d14 : decode cL_law (p0 + 14) = .ok (.aload_n 0, 1)) (d15 : decode cL_law (p0 + 15) = .ok (.iload 4, 2)) (d17 : decode cL_law (p0 + 17) = .ok (.iconst 1, 1)) (d18 : decode cL_law (p0 + 18) = .ok (.iadd, 1)) (d19 : decode cL_law (p0 + 19) = .ok (.iaload, 1)) (d20 : decode cL_law (p0 + 20) = .ok (.invokevirtual iR, 3)) (d23 : decode cL_law (p0 + 23) = .ok (.istore 6, 2)) (d25 : decode cL_law (p0 + 25) = .ok (.aload_n 2, 1)) (d26 : decode cL_law (p0 + 26) = .ok (.invokevirtual 82, 3)) (d29 : decode cL_law (p0 + 29) = .ok (.iload 5, 2)) (d31 : decode cL_law (p0 + 31) = .ok (.if_icmp .eq 5, 3)) (d36 : decode cL_law (p0 + 36) = .ok (.iload 5, 2)) (d38 : decode cL_law (p0 + 38) = .ok (.ifCond .ne 15, 3)) (d41 : decode cL_law (p0 + 41) = .ok (.aload_n 3, 1)) (d42 : decode cL_law (p0 + 42) = .ok (.iconst 0, 1)) (d43 : decode cL_law (p0 + 43) = .ok (.laload, 1)) (d44 : decode cL_law (p0 + 44) = .ok (.iload 6, 2)) (d46 : decode cL_law (p0 + 46) = .ok (.i2l, 1)) (d47 : decode cL_law (p0 + 47) = .ok (.lcmp, 1)) (d48 : decode cL_law (p0 + 48) = .ok (.ifCond .eq 5, 3)) (d53 : decode cL_law (p0 + 53) = .ok (.goto off9, 3))
    (hcl : cells + 8 ≤ 601024 ∧ slots + 176 ≤ 7293034) (hP : va_P D vwCl (q_W cy x sa ja ta h g q o S ++ [moW cy a u]).flatten H) (hD : va_D (fun q : Nat => s.heap.size ≤ q) (q_W cy x sa ja ta h g q o S ++ [moW cy a u]).flatten) (hS : va_S (fun q : Nat => s.heap.size ≤ q) s.heap H locs) (hl : lv_has ls 9 [(0, .ref b), (1, .ref x), (2, .ref (a 0)), (3, .ref o), (4, .int (nI i))])
    (kk : ∀ (S' : q_S) (u' : Nat → Nat → Int32) (H : Heap) (locs : List Loc) (ls : Array Slot), q_I S' u' → va_P D vwCl (q_W cy x sa ja ta h g q o S' ++ [moW cy a u']).flatten H → va_D (fun q : Nat => s.heap.size ≤ q) (q_W cy x sa ja ta h g q o S' ++ [moW cy a u']).flatten → va_S (fun q : Nat => s.heap.size ≤ q) s.heap H locs → lv_has ls 9 [(0, .ref b), (1, .ref x), (2, .ref (a 0)), (3, .ref o), (4, .int (nI i))] → W p l e room_1 s m #[Value.ref b] below meth c H locs (cells + 8) (slots + 176) Q (F0 m 1316 ls [])) : W p l e room_1 s m #[Value.ref b] below meth c H locs cells slots Q (F0 m p0 ls []) := by
  obtain ⟨hx, hb, hml, hown, hts, hX, hbl, hK, hT, hLs⟩ := C
  have hA : ∀ q : Nat, s.heap.size ≤ q → (fun q : Nat => s.heap.size ≤ q) q := fun _ h => h
  have hbA : ¬ (fun q : Nat => s.heap.size ≤ q) b := Nat.not_le.mpr hbl
  obtain ⟨r0, b0, P, PU, rm, rmR, ⟨f1, f2, f3, f4⟩, ⟨g1, g2, g3, g4⟩, hM, hMR, hfin⟩ := hop
  have hcell : cells + rm.cells ≤ 601024 := by omega
  have hslot : slots + rm.slots ≤ 7293034 := by omega
  refine lv_aload_n hx hb d0 rfl (lv_at hl 1 rfl) ?_
  refine lv_aload_n hx hb d1 rfl (lv_at hl 0 rfl) ?_
  refine lv_iload hx hb d2 (lv_at hl 4 rfl) ?_
  refine lv_iconst (v := 1) hx hb d4 (by decide) ?_
  refine lv_iadd hx hb d5 ?_
  refine wl_top (y := nI (i + 1)) (nI_add i 1) ?_
  refine va_sld hx hb hX hbl hbA hS (vp_in_nI (by omega) (by omega)) d6 ?_
  refine wl_top (y := xs (i + 1)) (by rw [nI_clamp (by omega)]) ?_
  refine lv_aload_n hx hb d7 rfl (lv_at hl 3 rfl) ?_
  refine wl_iSW (As := .ref x :: ([.int (xs (i + 1))] ++ [.ref o])) (rest := []) (bsC := q_W cy x sa ja ta h g q o S) (bsR := [moW cy a u]) ⟨hx, hb, hml, hown, hts⟩ (hM H.size) (cwL rm f1 f2) wl_T9_b (fun U hU hW => wl_T9_w hU hW hS (wl_freeB hD hS hA) hT) hK hP hD hS hA rfl hl.1 rfl (Nat.le_of_ble_eq_true rfl) d8 ⟨hcell, hslot⟩ (fun r bs1 H locs hpost _ _ hP hD hS => ?_)
  obtain ⟨S', er, eb, hPS⟩ := hpost
  subst er eb
  refine W.widen (k := cells + 8) (n := slots + 176) (by omega) (by omega) ?_
  obtain ⟨hP, hD⟩ := q_swap hP hD
  refine lv_istore (lv' := (5, .int r) :: [(0, .ref b), (1, .ref x), (2, .ref (a 0)), (3, .ref o), (4, .int (nI i))]) hx hb d11 hl (by decide) rfl (fun ls hl => ?_)
  refine lv_aload_n hx hb d13 rfl (lv_at hl 3 rfl) ?_
  refine lv_aload_n hx hb d14 rfl (lv_at hl 1 rfl) ?_
  refine lv_iload hx hb d15 (lv_at hl 5 rfl) ?_
  refine lv_iconst (v := 1) hx hb d17 (by decide) ?_
  refine lv_iadd hx hb d18 ?_
  refine wl_top (y := nI (i + 1)) (nI_add i 1) ?_
  refine va_sld hx hb hX hbl hbA hS (vp_in_nI (by omega) (by omega)) d19 ?_
  refine wl_top (y := xs (i + 1)) (by rw [nI_clamp (by omega)]) ?_
  refine wl_iV (As := [.int (xs (i + 1))]) (rest := []) (bsC := [moW cy a u]) (bsR := q_W cy x sa ja ta h g q o S') ⟨hx, hb, hml, hown, hts⟩ (hMR H.size) (cwR rmR g1 g2 g3 g4) wl_xT (fun _ _ _ => trivial) hK hP hD hS hA rfl rfl rfl rfl rfl hl.1 rfl (Nat.le_of_ble_eq_true rfl) d20 ⟨hcl.1, hcl.2⟩ (fun r2 bs2 H locs hpost _ _ hP hD hS => ?_)
  obtain ⟨u', er, eb, hPU⟩ := hpost
  subst er eb
  obtain ⟨hI, h62, h9⟩ := hfin S' u' hPS hPU
  refine lv_istore (lv' := (6, .int r2) :: (5, .int r) :: [(0, .ref b), (1, .ref x), (2, .ref (a 0)), (3, .ref o), (4, .int (nI i))]) hx hb d23 hl (by decide) rfl (fun ls hl => ?_)
  refine lv_aload_n hx hb d25 rfl (lv_at hl 4 rfl) ?_
  refine wl_pV (As := []) (rest := []) (bsC := [moW cy a u']) ⟨hx, hb, hml, hown, hts⟩ (m_X5_thrown l D cy a u') (cwV 0 hts gL_law_X5_thrown rfl rfl rfl (by decide +kernel) ⟨Nat.le_of_ble_eq_true rfl, Nat.le_of_ble_eq_true rfl⟩) hK hP [0] rfl rfl rfl rfl rfl rfl hl.1 rfl (Nat.le_of_ble_eq_true rfl) d26 ⟨hcl.1, hcl.2⟩ (fun r3 er3 => ?_)
  have er3 : r3 = r := Eq.trans er3 h62
  subst er3
  refine lv_iload hx hb d29 (lv_at hl 1 rfl) ?_
  refine lv_icmp_eq (tgt := p0 + 36) hx hb d31 (by omega) (fun _ => ?_) (fun hn => absurd rfl hn)
  obtain ⟨hP, hD⟩ := q_swap hP hD
  have K : W p l e room_1 s m #[Value.ref b] below meth c H locs (cells + 8) (slots + 176) Q (F0 m (p0 + 53) ls []) := by
    refine lv_goto (tgt := 1316) hx hb d53 hoff ?_
    exact kk S' u' H locs ls hI hP hD hS (lv_sub hl [2, 3, 4, 5, 6] rfl)
  refine lv_iload hx hb d36 (lv_at hl 1 rfl) ?_
  refine lv_if_ne (tgt := p0 + 53) hx hb d38 (by omega) (fun _ => K) (fun h0 => ?_)
  refine lv_aload_n hx hb d41 rfl (lv_at hl 5 rfl) ?_
  refine lv_iconst (v := 0) hx hb d42 (by decide) ?_
  refine wl_lald hx hb hK hP 10 0 rfl rfl 0 (by omega) (Nat.le_of_ble_eq_true rfl) d43 ?_
  refine lv_iload hx hb d44 (lv_at hl 0 rfl) ?_
  refine lv_i2l (v := Int32.toInt64 r2) hx hb d46 rfl ?_
  refine W.lcmp hx hb d47 ?_
  refine lv_if_eq (tgt := p0 + 53) hx hb d48 (by omega) (fun _ => K) (fun hn => absurd ((lg_cmp_eq _ _).mpr (h9 h0)) hn)
set_option maxHeartbeats 4000000 in
set_option maxRecDepth 100000 in
theorem q_seg0 {p : Program} {l : Launch} {e : Env} {s : State} {m : MethodId} {below : List Frame} {meth : Method} {c : Code} {b Ls : Nat} {xs : Nat → Int32} {D : va_G} {cy : Nat → ClassId} {x : Nat} {sa ja ta : Nat → Nat} {h g q o : Nat} {a : Nat → Nat} {Q : State → Prop} {S : q_S} {u : Nat → Nat → Int32} {i : Nat} {H : Heap} {locs : List Loc} {cells slots : Nat} {ls : Array Slot} {yL yR : MethodName} {wsL wsR : List Cond} {bytesL bytesR : ByteArray} {maxL maxR iW iR : Nat} {hh : List (Nat × Nat × Nat × Nat)} (C : q_C p s m c b Ls xs D cy) (hop : q_Op l D cy x sa ja ta h g q o a [] yL wsL yR wsR S u)
    (cwL : ∀ rm : Room, rm.frames ≤ 9 → rm.locals ≤ 300 → vx_CSW room_1 s #[Value.ref b] RL iW yL bytesL maxL (some .int) hh wsL rm rm.cells rm.slots 2) (cwR : ∀ rm : Room, rm.frames ≤ 9 → rm.locals ≤ 300 → rm.cells = 0 → rm.slots = 0 → CallW room_1 s #[Value.ref b] RL RX5 iR yR bytesR maxR (some .int) wsR rm 0 0 0) (p0 : Nat) (off9 : Int) (hoff : ((p0 + 41 : Nat) : Int) + off9 = 1316)
    (d0 : decode cL_law (p0 + 0) = .ok (.aload_n 1, 1)) (d1 : decode cL_law (p0 + 1) = .ok (.aload_n 3, 1)) (d2 : decode cL_law (p0 + 2) = .ok (.invokestatic iW, 3)) (d5 : decode cL_law (p0 + 5) = .ok (.istore 5, 2)) (d7 : decode cL_law (p0 + 7) = .ok (.aload_n 2, 1)) (d8 : decode cL_law (p0 + 8) = .ok (.invokevirtual iR, 3)) (d11 : decode cL_law (p0 + 11) = .ok (.istore 6, 2)) (d13 : decode cL_law (p0 + 13) = .ok (.aload_n 2, 1)) (d14 : decode cL_law (p0 + 14) = .ok (.invokevirtual 82, 3)) (d17 : decode cL_law (p0 + 17) = .ok (.iload 5, 2)) (d19 : decode cL_law (p0 + 19) = .ok (.if_icmp .eq 5, 3)) (d24 : decode cL_law (p0 + 24) = .ok (.iload 5, 2)) (d26 : decode cL_law (p0 + 26) = .ok (.ifCond .ne 15, 3)) (d29 : decode cL_law (p0 + 29) = .ok (.aload_n 3, 1)) (d30 : decode cL_law (p0 + 30) = .ok (.iconst 0, 1)) (d31 : decode cL_law (p0 + 31) = .ok (.laload, 1)) (d32 : decode cL_law (p0 + 32) = .ok (.iload 6, 2)) (d34 : decode cL_law (p0 + 34) = .ok (.i2l, 1)) (d35 : decode cL_law (p0 + 35) = .ok (.lcmp, 1)) (d36 : decode cL_law (p0 + 36) = .ok (.ifCond .eq 5, 3)) (d41 : decode cL_law (p0 + 41) = .ok (.goto off9, 3))
    (hcl : cells + 8 ≤ 601024 ∧ slots + 176 ≤ 7293034) (hP : va_P D vwCl (q_W cy x sa ja ta h g q o S ++ [moW cy a u]).flatten H) (hD : va_D (fun q : Nat => s.heap.size ≤ q) (q_W cy x sa ja ta h g q o S ++ [moW cy a u]).flatten) (hS : va_S (fun q : Nat => s.heap.size ≤ q) s.heap H locs) (hl : lv_has ls 9 [(0, .ref b), (1, .ref x), (2, .ref (a 0)), (3, .ref o), (4, .int (nI i))])
    (kk : ∀ (S' : q_S) (u' : Nat → Nat → Int32) (H : Heap) (locs : List Loc) (ls : Array Slot), q_I S' u' → va_P D vwCl (q_W cy x sa ja ta h g q o S' ++ [moW cy a u']).flatten H → va_D (fun q : Nat => s.heap.size ≤ q) (q_W cy x sa ja ta h g q o S' ++ [moW cy a u']).flatten → va_S (fun q : Nat => s.heap.size ≤ q) s.heap H locs → lv_has ls 9 [(0, .ref b), (1, .ref x), (2, .ref (a 0)), (3, .ref o), (4, .int (nI i))] → W p l e room_1 s m #[Value.ref b] below meth c H locs (cells + 8) (slots + 176) Q (F0 m 1316 ls [])) : W p l e room_1 s m #[Value.ref b] below meth c H locs cells slots Q (F0 m p0 ls []) := by
  obtain ⟨hx, hb, hml, hown, hts, hX, hbl, hK, hT, hLs⟩ := C
  have hA : ∀ q : Nat, s.heap.size ≤ q → (fun q : Nat => s.heap.size ≤ q) q := fun _ h => h
  have hbA : ¬ (fun q : Nat => s.heap.size ≤ q) b := Nat.not_le.mpr hbl
  obtain ⟨r0, b0, P, PU, rm, rmR, ⟨f1, f2, f3, f4⟩, ⟨g1, g2, g3, g4⟩, hM, hMR, hfin⟩ := hop
  have hcell : cells + rm.cells ≤ 601024 := by omega
  have hslot : slots + rm.slots ≤ 7293034 := by omega
  refine lv_aload_n hx hb d0 rfl (lv_at hl 1 rfl) ?_
  refine lv_aload_n hx hb d1 rfl (lv_at hl 3 rfl) ?_
  refine wl_iSW (As := .ref x :: ([] ++ [.ref o])) (rest := []) (bsC := q_W cy x sa ja ta h g q o S) (bsR := [moW cy a u]) ⟨hx, hb, hml, hown, hts⟩ (hM H.size) (cwL rm f1 f2) wl_T9_b (fun U hU hW => wl_T9_w hU hW hS (wl_freeB hD hS hA) hT) hK hP hD hS hA rfl hl.1 rfl (Nat.le_of_ble_eq_true rfl) d2 ⟨hcell, hslot⟩ (fun r bs1 H locs hpost _ _ hP hD hS => ?_)
  obtain ⟨S', er, eb, hPS⟩ := hpost
  subst er eb
  refine W.widen (k := cells + 8) (n := slots + 176) (by omega) (by omega) ?_
  obtain ⟨hP, hD⟩ := q_swap hP hD
  refine lv_istore (lv' := (5, .int r) :: [(0, .ref b), (1, .ref x), (2, .ref (a 0)), (3, .ref o), (4, .int (nI i))]) hx hb d5 hl (by decide) rfl (fun ls hl => ?_)
  refine lv_aload_n hx hb d7 rfl (lv_at hl 3 rfl) ?_
  refine wl_iV (As := []) (rest := []) (bsC := [moW cy a u]) (bsR := q_W cy x sa ja ta h g q o S') ⟨hx, hb, hml, hown, hts⟩ (hMR H.size) (cwR rmR g1 g2 g3 g4) wl_xT (fun _ _ _ => trivial) hK hP hD hS hA rfl rfl rfl rfl rfl hl.1 rfl (Nat.le_of_ble_eq_true rfl) d8 ⟨hcl.1, hcl.2⟩ (fun r2 bs2 H locs hpost _ _ hP hD hS => ?_)
  obtain ⟨u', er, eb, hPU⟩ := hpost
  subst er eb
  obtain ⟨hI, h62, h9⟩ := hfin S' u' hPS hPU
  refine lv_istore (lv' := (6, .int r2) :: (5, .int r) :: [(0, .ref b), (1, .ref x), (2, .ref (a 0)), (3, .ref o), (4, .int (nI i))]) hx hb d11 hl (by decide) rfl (fun ls hl => ?_)
  refine lv_aload_n hx hb d13 rfl (lv_at hl 4 rfl) ?_
  refine wl_pV (As := []) (rest := []) (bsC := [moW cy a u']) ⟨hx, hb, hml, hown, hts⟩ (m_X5_thrown l D cy a u') (cwV 0 hts gL_law_X5_thrown rfl rfl rfl (by decide +kernel) ⟨Nat.le_of_ble_eq_true rfl, Nat.le_of_ble_eq_true rfl⟩) hK hP [0] rfl rfl rfl rfl rfl rfl hl.1 rfl (Nat.le_of_ble_eq_true rfl) d14 ⟨hcl.1, hcl.2⟩ (fun r3 er3 => ?_)
  have er3 : r3 = r := Eq.trans er3 h62
  subst er3
  refine lv_iload hx hb d17 (lv_at hl 1 rfl) ?_
  refine lv_icmp_eq (tgt := p0 + 24) hx hb d19 (by omega) (fun _ => ?_) (fun hn => absurd rfl hn)
  obtain ⟨hP, hD⟩ := q_swap hP hD
  have K : W p l e room_1 s m #[Value.ref b] below meth c H locs (cells + 8) (slots + 176) Q (F0 m (p0 + 41) ls []) := by
    refine lv_goto (tgt := 1316) hx hb d41 hoff ?_
    exact kk S' u' H locs ls hI hP hD hS (lv_sub hl [2, 3, 4, 5, 6] rfl)
  refine lv_iload hx hb d24 (lv_at hl 1 rfl) ?_
  refine lv_if_ne (tgt := p0 + 41) hx hb d26 (by omega) (fun _ => K) (fun h0 => ?_)
  refine lv_aload_n hx hb d29 rfl (lv_at hl 5 rfl) ?_
  refine lv_iconst (v := 0) hx hb d30 (by decide) ?_
  refine wl_lald hx hb hK hP 10 0 rfl rfl 0 (by omega) (Nat.le_of_ble_eq_true rfl) d31 ?_
  refine lv_iload hx hb d32 (lv_at hl 0 rfl) ?_
  refine lv_i2l (v := Int32.toInt64 r2) hx hb d34 rfl ?_
  refine W.lcmp hx hb d35 ?_
  refine lv_if_eq (tgt := p0 + 41) hx hb d36 (by omega) (fun _ => K) (fun hn => absurd ((lg_cmp_eq _ _).mpr (h9 h0)) hn)
set_option maxHeartbeats 4000000 in
set_option maxRecDepth 100000 in
theorem q_segD {p : Program} {l : Launch} {e : Env} {s : State} {m : MethodId} {below : List Frame} {meth : Method} {c : Code} {b Ls : Nat} {xs : Nat → Int32} {D : va_G} {cy : Nat → ClassId} {x : Nat} {sa ja ta : Nat → Nat} {h g q o : Nat} {a : Nat → Nat} {Q : State → Prop} {S : q_S} {u : Nat → Nat → Int32} {i : Nat} {H : Heap} {locs : List Loc} {cells slots : Nat} {ls : Array Slot} {yL yR : MethodName} {wsL wsR : List Cond} {bytesL bytesR : ByteArray} {maxL maxR iW iR : Nat} (C : q_C p s m c b Ls xs D cy) (hop : q_OpD l D cy x sa ja ta h g q o a yL wsL yR wsR S u)
    (cwL : ∀ rm : Room, rm.frames ≤ 9 → rm.locals ≤ 300 → CallW room_1 s #[Value.ref b] RL RX4 iW yL bytesL maxL (some .int) wsL rm rm.cells rm.slots 0) (cwR : ∀ rm : Room, rm.frames ≤ 9 → rm.locals ≤ 300 → rm.cells = 0 → rm.slots = 0 → CallW room_1 s #[Value.ref b] RL RX5 iR yR bytesR maxR (some .int) wsR rm 0 0 0) (p0 : Nat) (off9 : Int) (hoff : ((p0 + 8 : Nat) : Int) + off9 = 1316)
    (d0 : decode cL_law (p0 + 0) = .ok (.aload_n 1, 1)) (d1 : decode cL_law (p0 + 1) = .ok (.invokevirtual iW, 3)) (d4 : decode cL_law (p0 + 4) = .ok (.aload_n 2, 1)) (d5 : decode cL_law (p0 + 5) = .ok (.invokevirtual iR, 3)) (d8 : decode cL_law (p0 + 8) = .ok (.if_icmp .eq off9, 3))
    (hcl : cells + 8 ≤ 601024 ∧ slots + 176 ≤ 7293034) (hP : va_P D vwCl (q_W cy x sa ja ta h g q o S ++ [moW cy a u]).flatten H) (hD : va_D (fun q : Nat => s.heap.size ≤ q) (q_W cy x sa ja ta h g q o S ++ [moW cy a u]).flatten) (hS : va_S (fun q : Nat => s.heap.size ≤ q) s.heap H locs) (hl : lv_has ls 9 [(0, .ref b), (1, .ref x), (2, .ref (a 0)), (3, .ref o), (4, .int (nI i))])
    (kk : ∀ (S' : q_S) (u' : Nat → Nat → Int32) (H : Heap) (locs : List Loc) (ls : Array Slot), q_I S' u' → va_P D vwCl (q_W cy x sa ja ta h g q o S' ++ [moW cy a u']).flatten H → va_D (fun q : Nat => s.heap.size ≤ q) (q_W cy x sa ja ta h g q o S' ++ [moW cy a u']).flatten → va_S (fun q : Nat => s.heap.size ≤ q) s.heap H locs → lv_has ls 9 [(0, .ref b), (1, .ref x), (2, .ref (a 0)), (3, .ref o), (4, .int (nI i))] → W p l e room_1 s m #[Value.ref b] below meth c H locs (cells + 8) (slots + 176) Q (F0 m 1316 ls [])) : W p l e room_1 s m #[Value.ref b] below meth c H locs cells slots Q (F0 m p0 ls []) := by
  obtain ⟨hx, hb, hml, hown, hts, hX, hbl, hK, hT, hLs⟩ := C
  have hA : ∀ q : Nat, s.heap.size ≤ q → (fun q : Nat => s.heap.size ≤ q) q := fun _ h => h
  obtain ⟨b0, P, PU, rm, rmR, ⟨f1, f2, f3, f4⟩, ⟨g1, g2, g3, g4⟩, hM, hMR, hfin⟩ := hop
  have hcell : cells + rm.cells ≤ 601024 := by omega
  have hslot : slots + rm.slots ≤ 7293034 := by omega
  refine lv_aload_n hx hb d0 rfl (lv_at hl 1 rfl) ?_
  refine wl_iV (As := []) (rest := []) (bsC := q_W cy x sa ja ta h g q o S) (bsR := [moW cy a u]) ⟨hx, hb, hml, hown, hts⟩ (hM H.size) (cwL rm f1 f2) wl_E_b (fun U _ hW => wl_E_w hW hT.1.1) hK hP hD hS hA rfl rfl rfl rfl rfl hl.1 rfl (Nat.le_of_ble_eq_true rfl) d1 ⟨hcell, hslot⟩ (fun r bs1 H locs hpost _ _ hP hD hS => ?_)
  obtain ⟨S', er, eb, hPS⟩ := hpost
  subst er eb
  refine W.widen (k := cells + 8) (n := slots + 176) (by omega) (by omega) ?_
  obtain ⟨hP, hD⟩ := q_swap hP hD
  refine lv_aload_n hx hb d4 rfl (lv_at hl 2 rfl) ?_
  refine wl_iV (As := []) (rest := [.int r]) (bsC := [moW cy a u]) (bsR := q_W cy x sa ja ta h g q o S') ⟨hx, hb, hml, hown, hts⟩ (hMR H.size) (cwR rmR g1 g2 g3 g4) wl_xT (fun _ _ _ => trivial) hK hP hD hS hA rfl rfl rfl rfl rfl hl.1 rfl (Nat.le_of_ble_eq_true rfl) d5 ⟨hcl.1, hcl.2⟩ (fun r2 bs2 H locs hpost _ _ hP hD hS => ?_)
  obtain ⟨u', er, eb, hPU⟩ := hpost
  subst er eb
  obtain ⟨hP, hD⟩ := q_swap hP hD
  refine lv_icmp_eq (tgt := 1316) hx hb d8 hoff (fun _ => ?_) (fun hn => absurd rfl hn)
  exact kk S' u' H locs ls (hfin S' u' hPS hPU) hP hD hS hl
