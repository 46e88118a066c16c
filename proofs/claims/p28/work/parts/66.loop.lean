/-! THE LAW: its loop -/
set_option maxHeartbeats 8000000 in
set_option maxRecDepth 100000 in
theorem p_loop {p : Program} {l : Launch} {e : Env} {s : State} {m : MethodId} {below : List Frame} {meth : Method} {c : Code} {Q : State → Prop} {b Ls : Nat} {xs : Nat → Int32} {D : va_G} {cy : Nat → ClassId} {A : Nat → Prop} {x : Nat} {sa ja ta : Nat → Nat} {h g q : Nat} {b1 : Nat → Nat} (hl0 : l.stackTraces = false) (C : p_C p s m c b Ls xs D cy A) (kend : ∀ (H : Heap) (locs : List Loc) (ls : Array Slot), va_S A s.heap H locs → W p l e room_1 s m #[Value.ref b] below meth c H locs 600172 7300668 Q (F0 m 414 ls [.int 1])) : ∀ (k t : Nat) (L : HsL) (z : Nat) (w v : Nat → Nat → Int32) (n T : Nat) (f : Nat → Option Nat) (o0 : Option ((Nat → Nat) × (Nat → Nat → Int32))) (H : Heap) (locs : List Loc) (ls : Array Slot), 60 - t < k → t ≤ 60 → z ≤ L.length → L.length ≤ 6 → p_ok v n T → T ≤ 8 * t → f 1 = some (b1 0) → f 0 = o0.map (fun y9 => y9.1 0) → va_P D vwCl (p_W cy x sa ja ta h g q b1 L z w v f o0).flatten H → va_D A (p_W cy x sa ja ta h g q b1 L z w v f o0).flatten → va_S A s.heap H locs → lv_has ls 17 [(0, .ref b), (1, .ref x), (2, .int 1), (3, .long (p_see q_s0 0)), (5, .int (nI t))] → W p l e room_1 s m #[Value.ref b] below meth c H locs (200 + 100 * t) (2000 + 1000 * t) Q (F0 m 118 ls [])
  | 0, _, _, _, _, _, _, _, _, _, _, _, _, hk, _, _, _, _, _, _, _, _, _, _, _ => absurd hk (Nat.not_lt_zero _)
  | k + 1, t, L, z, w, v, n, T, f, o0, H, locs, ls, hk, ht60, hz, hL, hok, hT, hf1, hf0, hP, hD, hS, hl => by
    have C1 := C
    obtain ⟨hx, hb, hml, hown, hts, hXs, hbl, hK, hX, hLs, hA, hbA⟩ := C1
    refine lv_iload hx hb dL_law_118 (lv_at hl 4 rfl) ?_
    refine lv_bipush (v := 60) hx hb dL_law_120 (by decide) ?_
    refine wl_icmp_ge (tgt := 413) hx hb t 60 dL_law_122 (by decide) (by omega) (by omega) (fun c1 => ?_) (fun c1 => ?_)
    · refine lv_iload_n hx hb dL_law_413 rfl (lv_at hl 2 rfl) ?_
      exact W.widen (by omega) (by omega) (kend H locs ls hS)
    · have ht : t < 60 := by omega
      refine lv_iload_n hx hb dL_law_125 rfl (lv_at hl 2 rfl) ?_
      refine wl_if_eq (tgt := 413) hx hb 1 dL_law_126 (by decide) (by omega) (fun c2 => absurd c2 (by decide)) (fun _ => ?_)
      have K4 : ∀ (L : HsL) (z : Nat) (w v : Nat → Nat → Int32) (n T2 : Nat) (f : Nat → Option Nat) (o0 : Option ((Nat → Nat) × (Nat → Nat → Int32))) (H : Heap) (locs : List Loc) (ls : Array Slot), z ≤ L.length → L.length ≤ 6 → p_ok v n T2 → T2 ≤ T + 8 → f 1 = some (b1 0) → f 0 = o0.map (fun y9 => y9.1 0) → va_P D vwCl (p_W cy x sa ja ta h g q b1 L z w v f o0).flatten H → va_D A (p_W cy x sa ja ta h g q b1 L z w v f o0).flatten → va_S A s.heap H locs → lv_has ls 17 [(0, .ref b), (1, .ref x), (2, .int 1), (3, .long (p_see q_s0 0)), (5, .int (nI t))] → W p l e room_1 s m #[Value.ref b] below meth c H locs (200 + 100 * t + 32 + 24) (2000 + 1000 * t + 320 + 528) Q (F0 m 407 ls []) := by
        intro L z w v n T2 f o0 H locs ls hz hL hok hT2 hf1 hf0 hP hD hS hl
        refine lv_iinc (v := nI (t + 1)) (lv' := [(5, .int (nI (t + 1))), (0, .ref b), (1, .ref x), (2, .int 1), (3, .long (p_see q_s0 0))]) hx hb dL_law_407 hl (k := 4) rfl (wl_inc t) (by decide) rfl (fun ls hl => ?_)
        refine lv_goto (tgt := 118) hx hb dL_law_410 (by decide) ?_
        refine W.widen (k := 200 + 100 * (t + 1)) (n := 2000 + 1000 * (t + 1)) (by omega) (by omega) ?_
        exact p_loop hl0 C kend k (t + 1) L z w v n T2 f o0 H locs ls (by omega) (by omega) hz hL hok (by omega) hf1 hf0 hP hD hS (lv_sub hl [1, 2, 3, 4, 0] rfl)
      have K3 : ∀ (L : HsL) (z : Nat) (w v : Nat → Nat → Int32) (n T2 : Nat) (H : Heap) (locs : List Loc) (ls : Array Slot), z ≤ L.length → L.length ≤ 6 → p_ok v n T2 → T2 ≤ T + 8 → va_P D vwCl (p_W cy x sa ja ta h g q b1 L z w v f o0).flatten H → va_D A (p_W cy x sa ja ta h g q b1 L z w v f o0).flatten → va_S A s.heap H locs → lv_has ls 17 [(0, .ref b), (1, .ref x), (2, .int 1), (3, .long (p_see q_s0 0)), (5, .int (nI t))] → W p l e room_1 s m #[Value.ref b] below meth c H locs (200 + 100 * t + 32) (2000 + 1000 * t + 320) Q (F0 m 301 ls []) := by
        intro L z w v n T2 H locs ls hz hL hok hT2 hP hD hS hl
        refine p_seg3 hl0 C ht (by omega) (by omega) hz hL hok hf1 hf0 hP hD hS hl ?_
        intro L z w v n T3 f o0 H locs ls hz hL hok hT3 hf1 hf0 hP hD hS hl
        exact K4 L z w v n T3 f o0 H locs ls hz hL hok (by omega) hf1 hf0 hP hD hS hl
      have hc6 : 6 ≤ z ∨ ¬ 6 ≤ z := by omega
      rcases hc6 with h6 | h6
      · refine p_seg1b hl0 C ht (by omega) (by omega) hz hL hok hT h6 hP hD hS hl ?_
        intro xx L1 z1 w1 v1 n1 T1 H locs ls hxx hz1 hL1 hpu hok1 hT1 hP hD hS hl
        exact p_seg2b (w := w) hl0 C ht (by omega) (by omega) hxx hz hL hok h6 hz1 hL1 hpu hok1 hT1 hP hD hS hl K3
      · refine p_seg1a hl0 C ht (by omega) (by omega) hz hL hok hT h6 hP hD hS hl ?_
        intro xx L1 z1 w1 v1 n1 T1 H locs ls hxx hz1 hL1 hpu hok1 hT1 hP hD hS hl
        exact p_seg2a (w := w) hl0 C ht (by omega) (by omega) hxx hz hL hok h6 hz1 hL1 hpu hok1 hT1 hP hD hS hl K3
