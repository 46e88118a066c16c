/-! THE LAW: its loop -/
set_option maxHeartbeats 8000000 in
set_option maxRecDepth 100000 in
theorem q_loop {p : Program} {l : Launch} {e : Env} {s : State} {m : MethodId} {below : List Frame} {meth : Method} {c : Code} {b Ls : Nat} {xs : Nat → Int32} {D : va_G} {cy : Nat → ClassId} {x : Nat} {sa ja ta : Nat → Nat} {h g q o : Nat} {a : Nat → Nat} {Q : State → Prop} (hl0 : l.stackTraces = false) (C : q_C p s m c b Ls xs D cy) (kend : ∀ (H : Heap) (locs : List Loc) (ls : Array Slot), va_S (fun q : Nat => s.heap.size ≤ q) s.heap H locs → W p l e room_1 s m #[Value.ref b] below meth c H locs 601024 7293034 Q (F0 m 1322 ls [])) : ∀ (n t : Nat) (S : q_S) (u : Nat → Nat → Int32) (H : Heap) (locs : List Loc) (ls : Array Slot), Ls - 3 * t < n → 3 * t ≤ Ls → q_I S u → va_P D vwCl (q_W cy x sa ja ta h g q o S ++ [moW cy a u]).flatten H → va_D (fun q : Nat => s.heap.size ≤ q) (q_W cy x sa ja ta h g q o S ++ [moW cy a u]).flatten → va_S (fun q : Nat => s.heap.size ≤ q) s.heap H locs → lv_has ls 9 [(0, .ref b), (1, .ref x), (2, .ref (a 0)), (3, .ref o), (4, .int (nI (3 * t)))] → W p l e room_1 s m #[Value.ref b] below meth c H locs (1000 + 8 * t) (10000 + 176 * t) Q (F0 m 23 ls [])
  | 0, _, _, _, _, _, _, hn, _, _, _, _, _, _ => absurd hn (Nat.not_lt_zero _)
  | n + 1, t, S, u, H, locs, ls, hn, hle, hI, hP, hD, hS, hl => by
    have C1 := C
    obtain ⟨hx, hb, hml, hown, hts, hX, hbl, hK, hT, hLs⟩ := C1
    have hbA : ¬ (fun q : Nat => s.heap.size ≤ q) b := Nat.not_le.mpr hbl
    refine lv_iload hx hb dL_law_23 (lv_at hl 4 rfl) ?_
    refine lv_aload_n hx hb dL_law_25 rfl (lv_at hl 0 rfl) ?_
    refine va_slen hx hb hX hbl hbA hS dL_law_26 ?_
    refine lv_iconst (v := 3) hx hb dL_law_27 (by decide) ?_
    refine lv_isub hx hb dL_law_28 ?_
    refine lv_icmp_gt (tgt := 1322) hx hb dL_law_29 (by decide) (fun _ => W.widen (k := 601024) (n := 7293034) (by omega) (by omega) (kend H locs ls hS)) (fun c1 => ?_)
    have hi : 3 * t + 2 < Ls := by
      have c2 : ¬ (nI Ls - nI 3 < nI (3 * t)) := c1
      rw [Int32.lt_iff_toInt_lt, pk_sub_toInt (by omega) (by omega), nI_toInt (by omega)] at c2
      omega
    have hcl : 1000 + 8 * t + 8 ≤ 601024 ∧ 10000 + 176 * t + 176 ≤ 7293034 := ⟨by omega, by omega⟩
    have K : ∀ (S' : q_S) (u' : Nat → Nat → Int32) (H : Heap) (locs : List Loc) (ls : Array Slot), q_I S' u' → va_P D vwCl (q_W cy x sa ja ta h g q o S' ++ [moW cy a u']).flatten H → va_D (fun q : Nat => s.heap.size ≤ q) (q_W cy x sa ja ta h g q o S' ++ [moW cy a u']).flatten → va_S (fun q : Nat => s.heap.size ≤ q) s.heap H locs → lv_has ls 9 [(0, .ref b), (1, .ref x), (2, .ref (a 0)), (3, .ref o), (4, .int (nI (3 * t)))] → W p l e room_1 s m #[Value.ref b] below meth c H locs (1000 + 8 * t + 8) (10000 + 176 * t + 176) Q (F0 m 1316 ls []) := by
      intro S' u' H locs ls hI hP hD hS hl
      refine lv_iinc (v := nI (3 * (t + 1))) (lv' := [(4, .int (nI (3 * (t + 1)))), (0, .ref b), (1, .ref x), (2, .ref (a 0)), (3, .ref o)]) hx hb dL_law_1316 hl (k := 4) rfl (by rw [wl_inc3, show 3 * (t + 1) = 3 * t + 3 by omega]) (by decide) rfl (fun ls hl => ?_)
      refine lv_goto (tgt := 23) hx hb dL_law_1319 (by decide) ?_
      rw [show 1000 + 8 * t + 8 = 1000 + 8 * (t + 1) by omega, show 10000 + 176 * t + 176 = 10000 + 176 * (t + 1) by omega]
      exact q_loop hl0 C kend n (t + 1) S' u' H locs ls (by omega) (by omega) hI hP hD hS (lv_sub hl [1, 2, 3, 4, 0] rfl)
    refine lv_aload_n hx hb dL_law_32 rfl (lv_at hl 0 rfl) ?_
    refine lv_iload hx hb dL_law_33 (lv_at hl 4 rfl) ?_
    refine va_sld hx hb hX hbl hbA hS (vp_in_nI (by omega) (by omega)) dL_law_35 ?_
    refine lv_bipush (v := 31) hx hb dL_law_36 (by decide) ?_
    refine lv_iand hx hb dL_law_38 ?_
    obtain ⟨j, hj, ej⟩ := pk_andE (xs (nI (3 * t)).toNatClampNeg) (m := 31) 5 (by decide)
    refine wl_top ej ?_
    by_cases h25 : 25 ≤ j
    · refine lv_tableOut (tgt := 1316) hx hb dL_law_39 (Or.inr (by rw [nI_toInt (by omega)]; omega)) (by decide) ?_
      exact W.widen (by omega) (by omega) (K S u H locs ls hI hP hD hS hl)
    · rcases (show j = 0 ∨ j = 1 ∨ j = 2 ∨ j = 3 ∨ j = 4 ∨ j = 5 ∨ j = 6 ∨ j = 7 ∨ j = 8 ∨ j = 9 ∨ j = 10 ∨ j = 11 ∨ j = 12 ∨ j = 13 ∨ j = 14 ∨ j = 15 ∨ j = 16 ∨ j = 17 ∨ j = 18 ∨ j = 19 ∨ j = 20 ∨ j = 21 ∨ j = 22 ∨ j = 23 ∨ j = 24 by omega) with rfl | rfl | rfl | rfl | rfl | rfl | rfl | rfl | rfl | rfl | rfl | rfl | rfl | rfl | rfl | rfl | rfl | rfl | rfl | rfl | rfl | rfl | rfl | rfl | rfl
      · refine lv_tableIn (off := 113) (tgt := 152) hx hb dL_law_39 (by decide) (by decide) rfl (by decide) ?_
        exact cs_mode hl0 C hi hI hcl hP hD hS hl K
      · refine lv_tableIn (off := 181) (tgt := 220) hx hb dL_law_39 (by decide) (by decide) rfl (by decide) ?_
        exact cs_loss hl0 C hi hI hcl hP hD hS hl K
      · refine lv_tableIn (off := 249) (tgt := 288) hx hb dL_law_39 (by decide) (by decide) rfl (by decide) ?_
        exact cs_set hl0 C hi hI hcl hP hD hS hl K
      · refine lv_tableIn (off := 317) (tgt := 356) hx hb dL_law_39 (by decide) (by decide) rfl (by decide) ?_
        exact cs_pulse hl0 C hi hI hcl hP hD hS hl K
      · refine lv_tableIn (off := 373) (tgt := 412) hx hb dL_law_39 (by decide) (by decide) rfl (by decide) ?_
        exact cs_send hl0 C hi hI hcl hP hD hS hl K
      · refine lv_tableIn (off := 429) (tgt := 468) hx hb dL_law_39 (by decide) (by decide) rfl (by decide) ?_
        exact cs_gap hl0 C hi hI hcl hP hD hS hl K
      · refine lv_tableIn (off := 442) (tgt := 481) hx hb dL_law_39 (by decide) (by decide) rfl (by decide) ?_
        exact cs_drop hl0 C hi hI hcl hP hD hS hl K
      · refine lv_tableIn (off := 455) (tgt := 494) hx hb dL_law_39 (by decide) (by decide) rfl (by decide) ?_
        exact cs_append hl0 C hi hI hcl hP hD hS hl K
      · refine lv_tableIn (off := 511) (tgt := 550) hx hb dL_law_39 (by decide) (by decide) rfl (by decide) ?_
        exact cs_clearBuffer hl0 C hi hI hcl hP hD hS hl K
      · refine lv_tableIn (off := 524) (tgt := 563) hx hb dL_law_39 (by decide) (by decide) rfl (by decide) ?_
        exact cs_firstError hl0 C hi hI hcl hP hD hS hl K
      · refine lv_tableIn (off := 537) (tgt := 576) hx hb dL_law_39 (by decide) (by decide) rfl (by decide) ?_
        exact cs_load hl0 C hi hI hcl hP hD hS hl K
      · refine lv_tableIn (off := 581) (tgt := 620) hx hb dL_law_39 (by decide) (by decide) rfl (by decide) ?_
        exact cs_keep hl0 C hi hI hcl hP hD hS hl K
      · refine lv_tableIn (off := 637) (tgt := 676) hx hb dL_law_39 (by decide) (by decide) rfl (by decide) ?_
        exact cs_goBack hl0 C hi hI hcl hP hD hS hl K
      · refine lv_tableIn (off := 693) (tgt := 732) hx hb dL_law_39 (by decide) (by decide) rfl (by decide) ?_
        exact cs_undo hl0 C hi hI hcl hP hD hS hl K
      · refine lv_tableIn (off := 737) (tgt := 776) hx hb dL_law_39 (by decide) (by decide) rfl (by decide) ?_
        exact cs_lampOf hl0 C hi hI hcl hP hD hS hl K
      · refine lv_tableIn (off := 805) (tgt := 844) hx hb dL_law_39 (by decide) (by decide) rfl (by decide) ?_
        exact cs_pulseAt hl0 C hi hI hcl hP hD hS hl K
      · refine lv_tableIn (off := 861) (tgt := 900) hx hb dL_law_39 (by decide) (by decide) rfl (by decide) ?_
        exact cs_count hl0 C hi hI hcl hP hD hS hl K
      · refine lv_tableIn (off := 917) (tgt := 956) hx hb dL_law_39 (by decide) (by decide) rfl (by decide) ?_
        exact cs_setting hl0 C hi hI hcl hP hD hS hl K
      · refine lv_tableIn (off := 973) (tgt := 1012) hx hb dL_law_39 (by decide) (by decide) rfl (by decide) ?_
        exact cs_ifGap hl0 C hi hI hcl hP hD hS hl K
      · refine lv_tableIn (off := 1041) (tgt := 1080) hx hb dL_law_39 (by decide) (by decide) rfl (by decide) ?_
        exact cs_wrong hl0 C hi hI hcl hP hD hS hl K
      · refine lv_tableIn (off := 1097) (tgt := 1136) hx hb dL_law_39 (by decide) (by decide) rfl (by decide) ?_
        exact cs_bears hl0 C hi hI hcl hP hD hS hl K
      · refine lv_tableIn (off := 1153) (tgt := 1192) hx hb dL_law_39 (by decide) (by decide) rfl (by decide) ?_
        exact cs_brokenAt hl0 C hi hI hcl hP hD hS hl K
      · refine lv_tableIn (off := 1166) (tgt := 1205) hx hb dL_law_39 (by decide) (by decide) rfl (by decide) ?_
        exact cs_wordsTo hl0 C hi hI hcl hP hD hS hl K
      · refine lv_tableIn (off := 1222) (tgt := 1261) hx hb dL_law_39 (by decide) (by decide) rfl (by decide) ?_
        exact cs_brightness hl0 C hi hI hcl hP hD hS hl K
      · refine lv_tableIn (off := 1263) (tgt := 1302) hx hb dL_law_39 (by decide) (by decide) rfl (by decide) ?_
        exact cs_digest hl0 C hi hI hcl hP hD hS hl K
