/-! OWN LIBRARY 7: the law's wrappers, which catch -/
def wl_T9 (A : Nat → Prop) (U : State) : Prop := wl_T A U ∧ va_Nc "java/lang/IllegalArgumentException" "java/lang/IndexOutOfBoundsException" U ∧ va_Nc "java/lang/IllegalStateException" "java/lang/IllegalArgumentException" U ∧ va_Nc "java/lang/IllegalStateException" "java/lang/IndexOutOfBoundsException" U
theorem wl_T9_w {A B : Nat → Prop} {s U : State} {H : Heap} {locs : List Loc} (hU : U.heap = H) (hW : s.WarmedH U.vm) (hS : va_S A s.heap H locs) (hAB : ∀ q, B q → A q) (h : wl_T9 A s) : wl_T9 B U :=
  ⟨wl_T_w hU hW hS hAB h.1, h.2.1.moved hW.alike, h.2.2.1.moved hW.alike, h.2.2.2.moved hW.alike⟩
theorem wl_T9_b {A : Nat → Prop} : FrameBlind (fun _ U => wl_T9 A U) := fun a U g mk h =>
  ⟨wl_T_b a U g mk h.1, h.2.1.moved (U := U.calling g mk a) (Vm.Alike.refl U.vm), h.2.2.1.moved (U := U.calling g mk a) (Vm.Alike.refl U.vm), h.2.2.2.moved (U := U.calling g mk a) (Vm.Alike.refl U.vm)⟩
theorem wl_ofH {l : Launch} {y : MethodName} {ws ws' : List Cond} {rm : Room} {D : va_G} {cy : Nat → ClassId} {X : State → Prop} {bs : List va_W} {sz : Nat} {av : List Value} {Qc : Array Value → State → Outcome → State → Prop} {cc : ByteArray} {maxL : Nat} {ret : Option FieldType} {hh : List (Nat × Nat × Nat × Nat)} {mc ms : Nat} {free : Addr → Prop} (hy : plainName y.cls = true) (hw : ws = Cond.codeWith y cc maxL ret hh :: ws') (hn : (lg_sl av).length ≤ maxL)
    (body : ∀ (p : Program) (e : Env) (s : State) (m : MethodId) (below : List Frame) (meth : Method) (c : Code) (ls : Array Slot) (A : Nat → Prop), p.tables.exec = Jvm.exec → c.code = cc → meth.sig.returnType = ret → (∀ w ∈ ws, w.before av.toArray s = true) → s.vm.findClass y.cls = some m.cls → meth.locks = false → c.maxLocals = maxL → c.exceptionTable.toList = tableOf hh → s.heap.size = sz → va_A bs.flatten sz = A → va_P D vwCl bs.flatten s.heap → va_K D vwCl (tyE cy) s → va_D A bs.flatten → X s → (∀ q : Nat, s.heap.size ≤ q → A q) → va_S A s.heap s.heap [] → lv_has ls maxL (lv_args 0 av) → W p l e rm s m av.toArray below meth c s.heap [] 0 0 (MQ below Qc av.toArray s mc ms free) (F0 m 0 ls [])) : Met l y ws rm (wl_ic D cy X bs sz av) Qc mc ms free := by
  refine MetFree.of_bodyS (code := cc) (maxLocals := maxL) (ret := ret) hy ?_ ?_
  · intro args s m h hn
    obtain ⟨m9, meth, c, hn9, h1, h2, h3, h4, -, h5, h6, -⟩ := Cond.codeWith_spec (atoms_spec (ws := ws) h _ (by rw [hw]; exact List.mem_cons_self))
    cases hn.symm.trans hn9
    exact ⟨meth, c, h1, h2, h3, h4, h5, h6⟩
  · intro p e s m args below meth c s₁ B hml hv _
    have hh0 : s₁.heap = s.heap := by rw [B.state]; rfl
    obtain ⟨rfl, hsz, hP, hK, hD, hX⟩ := hv
    have hl := lv_entry av (n := maxL) hn
    have htab := vx_table (x := y) B (atoms_spec (ws := ws) B.pre _ (by rw [hw]; exact List.mem_cons_self))
    have K := body p e s m below meth c _ _ B.exec B.bytes B.returns (atoms_spec (ws := ws) B.pre) (findClass_of_methodNamed B.named) B.notSynchronized hml htab hsz rfl hP hK hD.self hX (fun q h => Or.inr (by rw [← hsz]; exact h)) va_S.rf hl
    rw [← lg_entry_eq] at K
    obtain ⟨t, a1, o, b1, b2, b3⟩ := K s₁ hh0 (Stand.of_body B)
    exact ⟨t, o, a1, b1, b2, b3⟩
section WX
variable {p : Program} {l : Launch} {e : Env} {R : Room} {s : State} {m : MethodId} {args : Array Value} {below : List Frame} {meth : Method} {c : Code} {H : Heap} {locs : List Loc} {cells slots : Nat} {Q : State → Prop}
variable {cc bytes : ByteArray} {pc nL maxL n index : Nat} {ls : Array Slot} {rest st As : List Value} {D : va_G} {cy : Nat → ClassId} {A : Nat → Prop} {a b : Nat} {bs bsC bsR : List va_W} {H0 : Heap}
variable {Ts wsy : List Cond} {own C : String} {y : MethodName} {ret : Option FieldType} {rm : Room} {mc ms : Nat}
/-- a call that throws the class cls, its world as it was -/
theorem wl_xcall {cls : String} (S : CallFix p m c cc nL s args Ts own) (hM : vx_Met l y wsy rm (wl_ic D cy (wl_T (va_A bsC.flatten H.size)) bsC H.size (.ref b :: As)) (va_Qi (fun (_ : Int32) (_ : List va_W) => False) (wl_ib D bsC H.size) (va_A bsC.flatten H.size)) (wl_XC D bsC H.size (fun E : String => E = cls)) mc ms (va_A bsC.flatten H.size)) (cw : CallW R s args own C index y bytes maxL ret wsy rm mc ms n) (hT : wl_T A s) (hK : va_K D vwCl (tyE cy) s) (hP : va_P D vwCl (bsC ++ bsR).flatten H) (hD : va_D A (bsC ++ bsR).flatten) (hS : va_S A s.heap H locs) (hA : ∀ q, s.heap.size ≤ q → A q) {b0 : va_W} (h0 : bsC[0]? = some b0) {ci : Nat} {fs : List Value} (h1 : b0[0]? = some (b, .inr (ci, fs))) {rC : vw_C} (hc : vwCl[ci]? = some rC) (hC : rC.1 = C)
    (hn : As.length = n) (hsize : ls.size = nL) (hst : st = As.reverse ++ .ref b :: rest) (hrm : (rest.map fun v => v.category).sum ≤ 8) (hdg : decode cc pc = .ok (.invokevirtual index, 3)) (hcl : cells + mc ≤ R.cells ∧ slots + ms ≤ R.slots)
    (kx : ∀ (ce : Cell) (q9 : Addr) (H1 : Heap) (locs1 : List Loc), va_P D vwCl (bsC ++ bsR).flatten H1 → va_D A (bsC ++ bsR).flatten → va_S A s.heap H1 locs1 → H1[q9]? = some ce → ce.vm = .none → s.vm.findClass cls = some ce.cls → vx_W p l e R s m args below meth c H1 locs1 (cells + mc) (slots + ms) Q (F0 m pc ls rest) q9) : W p l e R s m args below meth c H locs cells slots Q (F0 m pc ls st) := by
  have hF := wl_freeB hD hS hA
  refine vx_calli (vx_runV S hM cw (wl_preVi wl_T_b (fun U hU hW => wl_T_w hU hW hS hF hT) hK hP hD h0 h1 hc hC) rfl hn hsize hst (lv_room (m := m) (pc := pc) (ls := ls) (rest := st) hrm) hdg hcl) hS (fun q _ h => hF q h) hF (fun q _ h => hF q h) (fun E ce q9 u t H1 locs1 ht hvm hu hB hz hk hS1 hce hcv hcl9 => ?_) (fun r u t H1 locs1 _ _ hw => hw.elim)
  subst hu
  obtain ⟨hE, hB1, hB2⟩ := hB
  subst hE
  rw [ht] at hB1
  obtain ⟨g1, g2⟩ := wl_joinB hP hD hF hk hB1 hB2
  exact kx ce q9 H1 locs1 g1 g2 hS1 hce hcv hcl9
end WX
/-! calls of what catches, of what is static; longs that are equal -/
section WSW
variable {p : Program} {l : Launch} {e : Env} {R : Room} {s : State} {m : MethodId} {args : Array Value} {below : List Frame} {meth : Method} {c : Code} {H : Heap} {locs : List Loc} {cells slots : Nat} {Q : State → Prop}
variable {cc bytes : ByteArray} {pc nL maxL n index : Nat} {ls : Array Slot} {rest st As : List Value} {D : va_G} {cy : Nat → ClassId} {A : Nat → Prop} {bsC bsR : List va_W} {H0 : Heap}
variable {Ts wsy : List Cond} {own : String} {y : MethodName} {ret : Option FieldType} {rm : Room} {mc ms : Nat} {X : State → Prop} {hh : List (Nat × Nat × Nat × Nat)}
theorem wl_iSW {post : Int32 → List va_W → Prop} (S : CallFix p m c cc nL s args Ts own) (hM : Met l y wsy rm (wl_ic D cy X bsC H.size As) (va_Qi post (wl_ib D bsC H.size) (va_A bsC.flatten H.size)) mc ms (va_A bsC.flatten H.size)) (cw : vx_CSW R s args own index y bytes maxL ret hh wsy rm mc ms n) (hXb : FrameBlind (fun _ U => X U)) (hXs : ∀ U : State, U.heap = H → s.WarmedH U.vm → X U) (hK : va_K D vwCl (tyE cy) s) (hP : va_P D vwCl (bsC ++ bsR).flatten H) (hD : va_D A (bsC ++ bsR).flatten) (hS : va_S A H0 H locs) (hA : ∀ q, H0.size ≤ q → A q)
    (hn : As.length = n) (hsize : ls.size = nL) (hst : st = As.reverse ++ rest) (hrm : (rest.map fun v => v.category).sum ≤ 8) (hdg : decode cc pc = .ok (.invokestatic index, 3)) (hcl : cells + mc ≤ R.cells ∧ slots + ms ≤ R.slots)
    (kk : ∀ (r : Int32) (bs1 : List va_W) (H1 : Heap) (locs1 : List Loc), post r bs1 → H.size ≤ H1.size → (∀ q : Nat, q < H.size → ¬ va_A bsC.flatten H.size q → H1[q]? = H[q]?) → va_P D vwCl (bs1 ++ bsR).flatten H1 → va_D A (bs1 ++ bsR).flatten → va_S A H0 H1 locs1 → W p l e R s m args below meth c H1 locs1 (cells + mc) (slots + ms) Q (F0 m (pc + 3) ls (.int r :: rest))) : W p l e R s m args below meth c H locs cells slots Q (F0 m pc ls st) := by
  have hF := wl_freeB hD hS hA
  refine va_calli (vx_runSW S hM cw (wl_preSi hXb hXs hK hP hD) rfl hn hsize hst (lv_room (m := m) (pc := pc) (ls := ls) (rest := st) hrm) hdg hcl) hS (fun q _ h => hF q h) hF (fun r u t H1 locs1 ht hvm hw hB hz hk hS1 => ?_)
  obtain ⟨hB1, hB2⟩ := hB
  rw [ht] at hB1
  obtain ⟨g1, g2⟩ := wl_joinB hP hD hF hk hB1 hB2
  exact kk r u H1 locs1 hw hz hk g1 g2 hS1
theorem wl_iS {post : Int32 → List va_W → Prop} (S : CallFix p m c cc nL s args Ts own) (hM : Met l y wsy rm (wl_ic D cy X bsC H.size As) (va_Qi post (wl_ib D bsC H.size) (va_A bsC.flatten H.size)) mc ms (va_A bsC.flatten H.size)) (cw : CallB R s args own index y bytes maxL ret wsy rm mc ms n ∧ (Cond.static y).before args s = true) (hXb : FrameBlind (fun _ U => X U)) (hXs : ∀ U : State, U.heap = H → s.WarmedH U.vm → X U) (hK : va_K D vwCl (tyE cy) s) (hP : va_P D vwCl (bsC ++ bsR).flatten H) (hD : va_D A (bsC ++ bsR).flatten) (hS : va_S A H0 H locs) (hA : ∀ q, H0.size ≤ q → A q)
    (hn : As.length = n) (hsize : ls.size = nL) (hst : st = As.reverse ++ rest) (hrm : (rest.map fun v => v.category).sum ≤ 8) (hdg : decode cc pc = .ok (.invokestatic index, 3)) (hcl : cells + mc ≤ R.cells ∧ slots + ms ≤ R.slots)
    (kk : ∀ (r : Int32) (bs1 : List va_W) (H1 : Heap) (locs1 : List Loc), post r bs1 → H.size ≤ H1.size → (∀ q : Nat, q < H.size → ¬ va_A bsC.flatten H.size q → H1[q]? = H[q]?) → va_P D vwCl (bs1 ++ bsR).flatten H1 → va_D A (bs1 ++ bsR).flatten → va_S A H0 H1 locs1 → W p l e R s m args below meth c H1 locs1 (cells + mc) (slots + ms) Q (F0 m (pc + 3) ls (.int r :: rest))) : W p l e R s m args below meth c H locs cells slots Q (F0 m pc ls st) := by
  have hF := wl_freeB hD hS hA
  refine va_calli (va_runS S hM cw (wl_preSi hXb hXs hK hP hD) rfl hn hsize hst (lv_room (m := m) (pc := pc) (ls := ls) (rest := st) hrm) hdg hcl) hS (fun q _ h => hF q h) hF (fun r u t H1 locs1 ht hvm hw hB hz hk hS1 => ?_)
  obtain ⟨hB1, hB2⟩ := hB
  rw [ht] at hB1
  obtain ⟨g1, g2⟩ := wl_joinB hP hD hF hk hB1 hB2
  exact kk r u H1 locs1 hw hz hk g1 g2 hS1
theorem wl_lcmpE (hx : p.tables.exec = Jvm.exec) (hb : c.code = cc) {x y : Int64} (h : x = y) (hdg : decode cc pc = .ok (.lcmp, 1)) (k : W p l e R s m args below meth c H locs cells slots Q (F0 m (pc + 1) ls (.int 0 :: rest))) : W p l e R s m args below meth c H locs cells slots Q (F0 m pc ls (.long y :: .long x :: rest)) := by
  refine W.lcmp hx hb hdg ?_
  rw [(lg_cmp_eq x y).mpr h]
  exact k
end WSW
/-! the law's cell -/
def wl_cc (b L : Nat) (xs : Nat → Int32) (av : List Value) : Array Value → State → Prop := fun v U => v = av.toArray ∧ va_X b L xs U U.heap ∧ b < U.heap.size
theorem wl_cblind {b L : Nat} {xs : Nat → Int32} {av : List Value} : FrameBlind (wl_cc b L xs av) := fun a U g mk ⟨h1, h2, h3⟩ => ⟨h1, va_X.moved (u := U) (U := U.calling g mk a) (Vm.Alike.refl U.vm) h2, h3⟩
theorem wl_ofC {l : Launch} {y : MethodName} {ws ws' : List Cond} {rm : Room} {b L : Nat} {xs : Nat → Int32} {av : List Value} {Qc : Array Value → State → Outcome → State → Prop} {cc : ByteArray} {maxL : Nat} {ret : Option FieldType} {mc ms : Nat} {free : Addr → Prop} (hy : plainName y.cls = true) (hw : ws = Cond.code y cc maxL ret :: ws') (hn : (lg_sl av).length ≤ maxL)
    (body : ∀ (p : Program) (e : Env) (s : State) (m : MethodId) (below : List Frame) (meth : Method) (c : Code) (ls : Array Slot), p.tables.exec = Jvm.exec → c.code = cc → meth.sig.returnType = ret → (∀ w ∈ ws, w.before av.toArray s = true) → s.vm.findClass y.cls = some m.cls → meth.locks = false → c.maxLocals = maxL → va_X b L xs s s.heap → b < s.heap.size → lv_has ls maxL (lv_args 0 av) → W p l e rm s m av.toArray below meth c s.heap [] 0 0 (MQ below Qc av.toArray s mc ms free) (F0 m 0 ls [])) : Met l y ws rm (wl_cc b L xs av) Qc mc ms free := by
  refine Met.ofW (cc := cc) (maxL := maxL) (ret := ret) hy hw ?_
  intro p e s m args below meth c s₁ B hml hv
  obtain ⟨rfl, hX, hbl⟩ := hv
  have hl := lv_entry av (n := maxL) hn
  rw [lg_entry_eq]
  exact body p e s m below meth c _ B.exec B.bytes B.returns (atoms_spec (ws := ws) B.pre) (findClass_of_methodNamed B.named) B.notSynchronized hml hX hbl hl
set_option maxHeartbeats 4000000 in
theorem m_L_cell (l : Launch) (b L : Nat) (xs : Nat → Int32) (k : Nat) (hk : k < 2 ^ 31) (hL : L < 2 ^ 31) : Met l yL_cell wsL_cell ({ frames := 0, cells := 0, slots := 0, locals := 0 } : Room) (wl_cc b L xs [.ref b, .int (nI k)]) (vp_Si (fun r : Int32 => ∃ j : Nat, j < 2 ^ 31 ∧ r = nI j)) 0 0 (fun _ => False) := by
  refine wl_ofC (cc := cL_cell) (maxL := 2) (ret := (some .int)) (by decide) rfl (Nat.le_of_ble_eq_true rfl) ?_
  intro p e s m below meth c ls hx hb hr hts hown hlocks hml hX hbl hl
  have hl : lv_has ls 2 [(0, .ref b), (1, .int (nI k))] := hl
  have hS : va_S (fun q : Nat => s.heap.size ≤ q) s.heap s.heap [] := va_S.rf
  have hbA : ¬ (fun q : Nat => s.heap.size ≤ q) b := Nat.not_le.mpr hbl
  have lk7 := hts (.constant RL 7 (1426881986)) (by decide +kernel)
  have lk8 := hts (.constant RL 8 (2147483647)) (by decide +kernel)
  have K : ∀ (r : Int32) (ls : Array Slot), W p l e ({ frames := 0, cells := 0, slots := 0, locals := 0 } : Room) s m ([.ref b, .int (nI k)] : List Value).toArray below meth c s.heap [] 0 0 (MQ below (vp_Si (fun r : Int32 => ∃ j : Nat, j < 2 ^ 31 ∧ r = nI j)) ([.ref b, .int (nI k)] : List Value).toArray s 0 0 (fun _ => False)) (F0 m 24 ls [.int r]) := by
    intro r ls
    refine lv_ldc hx hb hown lk8 dL_cell_24 ?_
    refine lv_iand hx hb dL_cell_26 ?_
    obtain ⟨j, h1, h2⟩ := pk_andE r (m := 2147483647) 31 (by decide)
    exact wl_ri (r := (r &&& 2147483647)) hx hb hr hlocks ⟨j, h1, h2⟩ dL_cell_27
  refine lv_iload_n hx hb dL_cell_0 rfl (lv_at hl 1 rfl) ?_
  refine lv_aload_n hx hb dL_cell_1 rfl (lv_at hl 0 rfl) ?_
  refine va_slen hx hb hX hbl hbA hS dL_cell_2 ?_
  refine wl_icmp_ge (tgt := 12) hx hb k L dL_cell_3 (by decide) hk hL (fun c1 => ?_) (fun c1 => ?_)
  · refine lv_ldc hx hb hown lk7 dL_cell_12 ?_
    refine lv_iload_n hx hb dL_cell_14 rfl (lv_at hl 1 rfl) ?_
    refine lv_sipush (v := 157) hx hb dL_cell_15 (by decide) ?_
    refine lv_iadd hx hb dL_cell_18 ?_
    refine lv_imul hx hb dL_cell_19 ?_
    refine lv_sipush (v := 32009) hx hb dL_cell_20 (by decide) ?_
    refine lv_iadd hx hb dL_cell_23 ?_
    exact K _ _
  · refine lv_aload_n hx hb dL_cell_6 rfl (lv_at hl 0 rfl) ?_
    refine lv_iload_n hx hb dL_cell_7 rfl (lv_at hl 1 rfl) ?_
    refine va_sld hx hb hX hbl hbA hS (vp_in_nI (by omega) (by omega)) dL_cell_8 ?_
    refine lv_goto (tgt := 24) hx hb dL_cell_9 (by decide) ?_
    exact K _ _
/-- the call of it -/
theorem wl_cS {p : Program} {l : Launch} {e : Env} {R : Room} {s : State} {m : MethodId} {args : Array Value} {below : List Frame} {meth : Method} {c : Code} {H : Heap} {locs : List Loc} {cells slots : Nat} {Q : State → Prop} {cc bytes : ByteArray} {pc nL maxL n index : Nat} {ls : Array Slot} {rest st As : List Value} {A : Nat → Prop} {H0 : Heap} {Ts wsy : List Cond} {own : String} {y : MethodName} {ret : Option FieldType} {rm : Room} {b L : Nat} {xs : Nat → Int32} {post : Int32 → Prop} (S : CallFix p m c cc nL s args Ts own) (hM : Met l y wsy rm (wl_cc b L xs As) (vp_Si post) 0 0 (fun _ => False)) (cw : CallB R s args own index y bytes maxL ret wsy rm 0 0 n ∧ (Cond.static y).before args s = true) (hX : va_X b L xs s s.heap) (hbl : b < s.heap.size) (hbA : ¬ A b) (hS : va_S A s.heap H locs)
    (hn : As.length = n) (hsize : ls.size = nL) (hst : st = As.reverse ++ rest) (hrm : (rest.map fun v => v.category).sum ≤ 8) (hdg : decode cc pc = .ok (.invokestatic index, 3)) (hcl : cells ≤ R.cells ∧ slots ≤ R.slots)
    (kk : ∀ r : Int32, post r → W p l e R s m args below meth c H locs cells slots Q (F0 m (pc + 3) ls (.int r :: rest))) : W p l e R s m args below meth c H locs cells slots Q (F0 m pc ls st) := by
  have hp : PreS s H (wl_cc b L xs As) As := by
    refine ⟨wl_cblind, fun U hU hW => ⟨rfl, ?_, ?_⟩⟩
    · rw [hU]
      exact (hX.kept (hS.2.1 b hbl hbA)).moved hW.alike
    · rw [hU]
      exact Nat.lt_of_lt_of_le hbl hS.1
  exact vp_callSi (W.runS S hM cw hp rfl hn hsize hst (lv_room (m := m) (pc := pc) (ls := ls) (rest := st) hrm) hdg hcl) kk
