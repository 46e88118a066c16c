/-! THE LAW'S START: what the tables give -/
theorem q_arrI {s : State} {args : Array Value} (h : (Cond.arrayClass .int).before args s = true) : ∃ cA : ClassId, ArrOfT s cA .int ∧ va_RA s cA .int := by
  obtain ⟨c, k, comp, h1, h2, h3⟩ := Cond.arrayClass_spec h
  exact ⟨c, fun n z => ⟨fun k h => (by cases h), k, h2, comp, h3⟩, h1⟩
theorem q_arrC {s : State} {args : Array Value} (h : (Cond.arrayClass .char).before args s = true) : ∃ cA : ClassId, ArrOfT s cA .char ∧ va_RA s cA .char := by
  obtain ⟨c, k, comp, h1, h2, h3⟩ := Cond.arrayClass_spec h
  exact ⟨c, fun n z => ⟨fun k h => (by cases h), k, h2, comp, h3⟩, h1⟩
theorem q_arrQ {s : State} {args : Array Value} (h : (Cond.arrayOver (.object "WireLamps$State")).before args s = true) : ∃ cA : ClassId, ArrOfT s cA (.object "WireLamps$State") ∧ va_RA s cA (.object "WireLamps$State") := by
  obtain ⟨comp, c, k, h1, -, h3, h4, h5⟩ := Cond.arrayOver_spec h
  exact ⟨c, fun n z => ⟨fun k h => (by cases h), k, h3, comp, h4⟩, k, comp, h3, h4, h1, h5⟩
theorem q_mkK {s : State} {args : Array Value} (hts : ∀ w ∈ lw_tbl, w.before args s = true) : ∃ (D : va_G) (cy : Nat → ClassId), va_K D vwCl (tyE cy) s := by
  obtain ⟨c0, i0, k0⟩ := u_known (C := RX0) (T := TX0) (N := 2) (n := 2) hts inX0 (hts (.instantiable RX0 2) (by decide +kernel))
  obtain ⟨c1, i1, k1⟩ := u_known (C := RX1) (T := TX1) (N := 6) (n := 6) hts inX1 (hts (.instantiable RX1 6) (by decide +kernel))
  obtain ⟨c2, i2, k2⟩ := u_known (C := RX2) (T := TX2) (N := 13) (n := 13) hts inX2 (hts (.instantiable RX2 13) (by decide +kernel))
  obtain ⟨c3, i3, k3⟩ := u_known (C := RX3) (T := TX3) (N := 2) (n := 2) hts inX3 (hts (.instantiable RX3 2) (by decide +kernel))
  obtain ⟨c4, i4, k4⟩ := u_known (C := RX4) (T := TX4) (N := 5) (n := 5) hts inX4 (hts (.instantiable RX4 5) (by decide +kernel))
  obtain ⟨a0, r0, s0⟩ := q_arrI (hts (.arrayClass .int) (by decide +kernel))
  obtain ⟨a1, r1, s1⟩ := q_arrC (hts (.arrayClass .char) (by decide +kernel))
  obtain ⟨a3, r3, s3⟩ := q_arrQ (hts (.arrayOver (.object "WireLamps$State")) (by decide +kernel))
  refine ⟨(fun k => if k = 0 then c0 else if k = 1 then c1 else if k = 2 then c2 else if k = 3 then c3 else c4, fun k => if k = 0 then i0 else if k = 1 then i1 else if k = 2 then i2 else if k = 3 then i3 else i4), fun k => if k = 0 then a0 else if k = 1 then a1 else a3, ?_, ?_⟩
  · intro k q hq
    match k, hq with
    | 0, hq => cases hq; exact k0
    | 1, hq => cases hq; exact k1
    | 2, hq => cases hq; exact k2
    | 3, hq => cases hq; exact k3
    | 4, hq => cases hq; exact k4
    | k + 5, hq => simp [vwCl] at hq
  · intro k q hq
    match k, hq with
    | 0, hq => cases hq; exact ⟨r0, s0⟩
    | 1, hq => cases hq; exact ⟨r1, s1⟩
    | 2, hq => cases hq; exact ⟨r0, s0⟩
    | 3, hq => cases hq; exact ⟨r3, s3⟩
    | 4, hq => cases hq; exact ⟨r0, s0⟩
    | k + 5, hq => simp [tyE] at hq
theorem wl_B_in : ∀ w ∈ wl_B, w ∈ lw_tbl := by decide +kernel
theorem q_strs1 : ∀ q ∈ wl_strs, Cond.stringRef RX4 q.1 q.2 ∈ lw_tbl := by decide +kernel
theorem q_strs2 : ∀ q ∈ wl_strs, Cond.exactly (Term.string RX4 q.1) "java/lang/String" ∈ flatC (Jvm.Cond.and given_1 narrow_1) := by decide +kernel
abbrev q_fl1 : List Cond := [.isRef (.static "java/lang/Throwable" "UNASSIGNED_STACK" "[Ljava/lang/StackTraceElement;"), .isRef (.static "java/lang/Throwable" "SUPPRESSED_SENTINEL" "Ljava/util/List;"), .not (.castable "java/lang/IllegalArgumentException" "java/lang/IndexOutOfBoundsException"), .not (.castable "java/lang/IllegalStateException" "java/lang/IllegalArgumentException"), .not (.castable "java/lang/IllegalStateException" "java/lang/IndexOutOfBoundsException"),
  .arrayOf (.static "WireLamps" "LOWEST_VALUE" "[I") .int, .eq (.length (.static "WireLamps" "LOWEST_VALUE" "[I")) (.int 3), .eq (.elem (.static "WireLamps" "LOWEST_VALUE" "[I") (.int 0)) (.int 2), .eq (.elem (.static "WireLamps" "LOWEST_VALUE" "[I") (.int 1)) (.int 0), .eq (.elem (.static "WireLamps" "LOWEST_VALUE" "[I") (.int 2)) (.int 0),
  .arrayOf (.static "WireLamps" "HIGHEST_VALUE" "[I") .int, .eq (.length (.static "WireLamps" "HIGHEST_VALUE" "[I")) (.int 3), .eq (.elem (.static "WireLamps" "HIGHEST_VALUE" "[I") (.int 0)) (.int 12), .eq (.elem (.static "WireLamps" "HIGHEST_VALUE" "[I") (.int 1)) (.int 1), .eq (.elem (.static "WireLamps" "HIGHEST_VALUE" "[I") (.int 2)) (.int 360)]
theorem q_fl1_in : ∀ w ∈ q_fl1, w ∈ flatC (Jvm.Cond.and given_1 narrow_1) := by decide +kernel
abbrev q_ta1 : List Cond := [.methodLinkNest RX0 24 yX2_init "WireLamps", .methodLinkNest RX4 9 yX2_init "WireLamps", .methodLinkNest RX4 18 yX1_init "WireLamps", .methodLinkNest RX4 25 yX3_init "WireLamps", .methodLinkNest RX4 32 yX0_init "WireLamps", .arrayOver (.object "WireLamps$State"),
  .laysStatic "java/lang/Throwable" "UNASSIGNED_STACK" "[Ljava/lang/StackTraceElement;", .laysStatic "java/lang/Throwable" "SUPPRESSED_SENTINEL" "Ljava/util/List;", .initialized "java/lang/Throwable", .laysStatic "WireLamps" "LOWEST_VALUE" "[I", .laysStatic "WireLamps" "HIGHEST_VALUE" "[I", .initialized "WireLamps"]
theorem q_ta1_in : ∀ w ∈ q_ta1, w ∈ lw_tbl := by decide +kernel
theorem q_mkT {s : State} {args : Array Value} (hts : ∀ w ∈ lw_tbl, w.before args s = true) (hgv : (Jvm.Cond.and given_1 narrow_1).before args s = true) : wl_T9 (fun q : Nat => s.heap.size ≤ q) s := by
  have hf := flat_of_before _ hgv
  have hfl : ∀ w ∈ q_fl1, w.before args s = true := fun w hw => hf w (q_fl1_in w hw)
  have hta : ∀ w ∈ q_ta1, w.before args s = true := fun w hw => hts w (q_ta1_in w hw)
  have hA : ∀ a : Nat, a < s.heap.size → ¬ (fun q : Nat => s.heap.size ≤ q) a := fun a h => Nat.not_le.mpr h
  have tb : ∀ (k : Nat) (w : Cond), q_ta1[k]? = some w → w.before args s = true := fun k w h => hta w (List.mem_of_getElem? h)
  have fl : ∀ (k : Nat) (w : Cond), q_fl1[k]? = some w → w.before args s = true := fun k w h => hfl w (List.mem_of_getElem? h)
  obtain ⟨t5, e5, h5⟩ := va_Tof (tm := .static "WireLamps" "LOWEST_VALUE" "[I") (ty := .int) (N := 3) (f := wl_lo) (by decide) (fl 5 _ rfl) (va_eqt (fl 6 _ rfl)) (fun j hj => by
    rcases (show j = 0 ∨ j = 1 ∨ j = 2 by omega) with rfl | rfl | rfl
    · exact va_eqt (fl 7 _ rfl)
    · exact va_eqt (fl 8 _ rfl)
    · exact va_eqt (fl 9 _ rfl)) hA
  obtain ⟨t6, e6, h6⟩ := va_Tof (tm := .static "WireLamps" "HIGHEST_VALUE" "[I") (ty := .int) (N := 3) (f := wl_hi) (by decide) (fl 10 _ rfl) (va_eqt (fl 11 _ rfl)) (fun j hj => by
    rcases (show j = 0 ∨ j = 1 ∨ j = 2 by omega) with rfl | rfl | rfl
    · exact va_eqt (fl 12 _ rfl)
    · exact va_eqt (fl 13 _ rfl)
    · exact va_eqt (fl 14 _ rfl)) hA
  refine ⟨⟨⟨va_Nw.of rfl (tb 0 _ rfl), va_Nw.of rfl (tb 1 _ rfl), va_Nw.of rfl (tb 2 _ rfl), va_Nw.of rfl (tb 3 _ rfl), va_Nw.of rfl (tb 4 _ rfl), va_AO.of (tb 5 _ rfl), fun q hq => ?_⟩, fun w hw => va_Nw.of (wl_B_t w hw) (hts w (wl_B_in w hw)), vx_Zqof (tb 6 _ rfl) (tb 8 _ rfl) (fl 0 _ rfl) hA, vx_Zqof (tb 7 _ rfl) (tb 8 _ rfl) (fl 1 _ rfl) hA, ⟨t5, va_Zof (tb 9 _ rfl) (tb 11 _ rfl) e5 hA, h5⟩, ⟨t6, va_Zof (tb 10 _ rfl) (tb 11 _ rfl) e6 hA, h6⟩⟩, va_Nc.of (fl 2 _ rfl), va_Nc.of (fl 3 _ rfl), va_Nc.of (fl 4 _ rfl)⟩
  obtain ⟨a, c, cell, k, q1, -⟩ := Cond.exactly_spec (hf _ (q_strs2 q hq))
  exact ⟨a, vk_R.of (hts _ (q_strs1 q hq)) q1⟩
