/-! OWN LIBRARY 6: methods that throw -/
def wl_B : List Cond := [.declares (Bundle.initS "java/lang/RuntimeException"), .declares (Bundle.initS "java/lang/Exception"), .declares (Bundle.initS Bundle.tN), .castable "java/lang/IndexOutOfBoundsException" "java/lang/IndexOutOfBoundsException", .castable "java/lang/IllegalArgumentException" "java/lang/IllegalArgumentException", .castable "java/lang/IllegalStateException" "java/lang/IllegalStateException"]
def wl_lo : Nat → Value := fun j => .int (if j = 0 then 2 else 0)
def wl_hi : Nat → Value := fun j => .int (if j = 0 then 12 else if j = 1 then 1 else 360)
/-- what a method that may throw asks of the machine: the words, and statics that lie outside A -/
def wl_T (A : Nat → Prop) (U : State) : Prop := wl_E U ∧ (∀ w ∈ wl_B, va_Nw w U) ∧ vx_Zq Bundle.tN "UNASSIGNED_STACK" Bundle.steD A U U.heap ∧ vx_Zq Bundle.tN "SUPPRESSED_SENTINEL" Bundle.listD A U U.heap ∧ (∃ t : Nat, va_Z "WireLamps" "LOWEST_VALUE" "[I" (.ref t) A U U.heap ∧ va_T .int t 3 wl_lo A U U.heap) ∧ (∃ t : Nat, va_Z "WireLamps" "HIGHEST_VALUE" "[I" (.ref t) A U U.heap ∧ va_T .int t 3 wl_hi A U U.heap)
theorem wl_B_w {s U : State} (hW : s.WarmedH U.vm) (h : ∀ w ∈ wl_B, va_Nw w s) : ∀ w ∈ wl_B, va_Nw w U := by
  intro w hw
  have h2 := h w hw
  simp only [wl_B, List.mem_cons, List.not_mem_nil, or_false] at hw
  rcases hw with rfl | rfl | rfl | rfl | rfl | rfl
  · exact va_Nw.warmD hW h2
  · exact va_Nw.warmD hW h2
  · exact va_Nw.warmD hW h2
  · exact va_Nw.warmC hW h2
  · exact va_Nw.warmC hW h2
  · exact va_Nw.warmC hW h2
theorem wl_B_t : ∀ w ∈ wl_B, w.onTables = true := by decide +kernel
theorem wl_T_mv {A B : Nat → Prop} {s U : State} {H : Heap} {locs : List Loc} (hE : wl_E U) (hB : ∀ w ∈ wl_B, va_Nw w U) (hvm : s.vm.Alike U.vm) (hU : U.heap = H) (hS : va_S A s.heap H locs) (hAB : ∀ q, B q → A q) (h : wl_T A s) : wl_T B U := by
  subst hU
  obtain ⟨h1, h2, h3, h4, ⟨t5, h5, h5'⟩, ⟨t6, h6, h6'⟩⟩ := h
  exact ⟨hE, hB, ((h3.kept hS.2.1).moved hvm).narrow hAB, ((h4.kept hS.2.1).moved hvm).narrow hAB, ⟨t5, ((h5.kept hS.2.1).moved hvm).narrow hAB, ((h5'.kept hS.2.1).moved hvm).narrow hAB⟩, ⟨t6, ((h6.kept hS.2.1).moved hvm).narrow hAB, ((h6'.kept hS.2.1).moved hvm).narrow hAB⟩⟩
theorem wl_T_w {A B : Nat → Prop} {s U : State} {H : Heap} {locs : List Loc} (hU : U.heap = H) (hW : s.WarmedH U.vm) (hS : va_S A s.heap H locs) (hAB : ∀ q, B q → A q) (h : wl_T A s) : wl_T B U :=
  wl_T_mv (wl_E_w hW h.1) (wl_B_w hW h.2.1) hW.alike hU hS hAB h
theorem wl_T_b {A : Nat → Prop} : FrameBlind (fun _ U => wl_T A U) := fun a U g mk h =>
  wl_T_mv (U := U.calling g mk a) (H := U.heap) (locs := []) (wl_E_b a U g mk h.1) (fun w hw => va_Nw.same (wl_B_t w hw) (rfl : U.vm = (U.calling g mk a).vm) (h.2.1 w hw)) (Vm.Alike.refl U.vm) rfl va_S.rf (fun _ q => q) h
/-- where it has thrown: the world as it was -/
def wl_XC (D : va_G) (bs0 : List va_W) (sz : Nat) (P : String → Prop) : String → State → State → Prop := vx_X (fun u : List va_W => u = bs0) (fun E u t => P E ∧ wl_ib D bs0 sz u t) (va_A bs0.flatten sz)
theorem wl_ofX {l : Launch} {y : MethodName} {ws ws' : List Cond} {rm : Room} {D : va_G} {cy : Nat → ClassId} {bs : List va_W} {sz : Nat} {av : List Value} {Qc : Array Value → State → Outcome → State → Prop} {XC : String → State → State → Prop} {cc : ByteArray} {maxL : Nat} {ret : Option FieldType} {mc ms : Nat} {free : Addr → Prop} (hy : plainName y.cls = true) (hw : ws = Cond.code y cc maxL ret :: ws') (hn : (lg_sl av).length ≤ maxL)
    (body : ∀ (p : Program) (e : Env) (s : State) (m : MethodId) (below : List Frame) (meth : Method) (c : Code) (ls : Array Slot) (A : Nat → Prop), p.tables.exec = Jvm.exec → c.code = cc → meth.sig.returnType = ret → (∀ w ∈ ws, w.before av.toArray s = true) → s.vm.findClass y.cls = some m.cls → meth.locks = false → c.maxLocals = maxL → (∀ x ∈ c.exceptionTable.toList, False) → s.heap.size = sz → va_A bs.flatten sz = A → va_P D vwCl bs.flatten s.heap → va_K D vwCl (tyE cy) s → va_D A bs.flatten → wl_T A s → (∀ q : Nat, s.heap.size ≤ q → A q) → va_S A s.heap s.heap [] → lv_has ls maxL (lv_args 0 av) → W p l e rm s m av.toArray below meth c s.heap [] 0 0 (vx_MQ below Qc XC av.toArray s mc ms free) (F0 m 0 ls [])) : vx_Met l y ws rm (wl_ic D cy (wl_T (va_A bs.flatten sz)) bs sz av) Qc XC mc ms free := by
  refine vx_ofW (cc := cc) (maxL := maxL) (ret := ret) hy hw ?_
  intro p e s m args below meth c s₁ B hml hnt hv
  obtain ⟨rfl, hsz, hP, hK, hD, hX⟩ := hv
  have hl := lv_entry av (n := maxL) hn
  rw [lg_entry_eq]
  exact body p e s m below meth c _ _ B.exec B.bytes B.returns (atoms_spec (ws := ws) B.pre) (findClass_of_methodNamed B.named) B.notSynchronized hml hnt hsz rfl hP hK hD.self hX (fun q h => Or.inr (by rw [← hsz]; exact h)) va_S.rf hl
theorem wl_throw {p : Program} {l : Launch} {e : Env} {R : Room} {s : State} {m : MethodId} {args : Array Value} {below : List Frame} {meth : Method} {c : Code} {Qc : Array Value → State → Outcome → State → Prop} {cc : ByteArray} {pc : Nat} {ls : Array Slot} {rest : List Value} {D : va_G} {A : Nat → Prop} {bs : List va_W} {sz nL mc ms : Nat} {Ts : List Cond} {P : String → Prop} (hexec : p.tables.exec = Jvm.exec) (hb : c.code = cc) (hl0 : l.stackTraces = false) {cls text : String} {ik is ic : Nat} (hts : ∀ w ∈ Ts, w.before args s = true)
    (hown : s.vm.findClass RX4 = some m.cls) (hcls : Bundle.fit cls = true) (hk : Cond.classLink RX4 ik cls ∈ Ts) (hini : Cond.initialized cls ∈ Ts) (hat : ∀ w ∈ (vx_atS RX4 ic cls ["java/lang/RuntimeException", "java/lang/Exception"]).filter goodWord, w ∈ Ts)
    (hbad : ∀ w ∈ (vx_atS RX4 ic cls ["java/lang/RuntimeException", "java/lang/Exception"]).filter (fun w => !goodWord w), w ∈ wl_B)
    (hgood : ∀ w ∈ Cond.classLink RX4 ik cls :: Cond.initialized cls :: vx_atS RX4 ic cls ["java/lang/RuntimeException", "java/lang/Exception"], vx_ot w = true) (htx : (is, text) ∈ wl_strs)
    (hX : wl_T A s) (hAe : va_A bs.flatten sz = A) (hP : va_P D vwCl bs.flatten s.heap) (hD : va_D A bs.flatten) (hsize : ls.size = nL) (hml : c.maxLocals = nL)
    (d0 : decode cc pc = .ok (.new ik, 3)) (d3 : decode cc (pc + 3) = .ok (.dup, 1)) (d4 : decode cc (pc + 4) = .ok (.ldc is, 2)) (d6 : decode cc (pc + 6) = .ok (.invokespecial ic, 3)) (d9 : decode cc (pc + 9) = .ok (.athrow, 1))
    (hout : ∀ x ∈ c.exceptionTable.toList, False) (hRframes : 5 < R.frames) (hRlocals : (rest.map fun v => v.category).sum + 82 ≤ R.locals) (hRcells : 1 ≤ R.cells) (hRslots : 6 ≤ R.slots) (hlocks : meth.locks = false) (hc : P cls) (hmc : 1 ≤ mc) (hms : 6 ≤ ms) :
    W p l e R s m args below meth c s.heap [] 0 0 (vx_MQ below Qc (wl_XC D bs sz P) args s mc ms (va_A bs.flatten sz)) (F0 m pc ls rest) := by
  obtain ⟨sa, hstr⟩ := hX.1.2.2.2.2.2.2 _ htx
  subst hAe
  refine vx_throwS hexec hb hl0 (names := ["java/lang/RuntimeException", "java/lang/Exception"]) (sa := sa) hown hcls (by decide +kernel) (hts _ hk) (hts _ hini) hstr (vx_hat (fun w hw => hts w (hat w hw)) hbad (fun w hw => va_Nw.use (wl_B_t w hw) (hX.2.1 w hw))) hgood hX.2.2.1 hX.2.2.2.1 va_S.rf (hsize.trans hml.symm) d0 d3 d4 d6 d9 (fun x hx => (hout x hx).elim) hRframes hRlocals (by omega) (by omega) hlocks ?_ (fun z hz => by cases hz) (by omega) (by omega)
  intro t hvm h1 h2
  refine ⟨bs, rfl, ⟨hc, ?_, hD⟩, h1, fun q hq _ => h2 q hq⟩
  exact wl_P.mpr fun q hq => (wl_P.mp hP q hq).kept (h2 q.1 (wl_P.mp hP q hq).lt)
theorem wl_bad_IO : ∀ w ∈ (vx_atS RX4 49 "java/lang/IndexOutOfBoundsException" ["java/lang/RuntimeException", "java/lang/Exception"]).filter (fun w => !goodWord w), w ∈ wl_B := by decide +kernel
theorem wl_bad_IA : ∀ w ∈ (vx_atS RX4 56 "java/lang/IllegalArgumentException" ["java/lang/RuntimeException", "java/lang/Exception"]).filter (fun w => !goodWord w), w ∈ wl_B := by decide +kernel
theorem wl_bad_IS : ∀ w ∈ (vx_atS RX4 126 "java/lang/IllegalStateException" ["java/lang/RuntimeException", "java/lang/Exception"]).filter (fun w => !goodWord w), w ∈ wl_B := by decide +kernel
theorem wl_ot_IO : ∀ w ∈ Cond.classLink RX4 45 "java/lang/IndexOutOfBoundsException" :: Cond.initialized "java/lang/IndexOutOfBoundsException" :: vx_atS RX4 49 "java/lang/IndexOutOfBoundsException" ["java/lang/RuntimeException", "java/lang/Exception"], vx_ot w = true := by decide +kernel
theorem wl_ot_IA : ∀ w ∈ Cond.classLink RX4 52 "java/lang/IllegalArgumentException" :: Cond.initialized "java/lang/IllegalArgumentException" :: vx_atS RX4 56 "java/lang/IllegalArgumentException" ["java/lang/RuntimeException", "java/lang/Exception"], vx_ot w = true := by decide +kernel
theorem wl_ot_IS : ∀ w ∈ Cond.classLink RX4 122 "java/lang/IllegalStateException" :: Cond.initialized "java/lang/IllegalStateException" :: vx_atS RX4 126 "java/lang/IllegalStateException" ["java/lang/RuntimeException", "java/lang/Exception"], vx_ot w = true := by decide +kernel
theorem q_lo3_v (i : Nat) : wl_lo i = .int (nI (if i = 0 then 2 else 0)) := by unfold wl_lo; split <;> rfl
theorem q_hi3_v (i : Nat) : wl_hi i = .int (nI (if i = 0 then 12 else if i = 1 then 1 else 360)) := by unfold wl_hi; split <;> (try split) <;> rfl
