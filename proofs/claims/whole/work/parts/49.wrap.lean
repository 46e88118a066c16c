/-! OWN LIBRARY 7: the law's wrappers, which catch -/
def wl_T9 (A : Nat → Prop) (U : State) : Prop := wl_T A U ∧ va_Nc "java/lang/IllegalArgumentException" "java/lang/IndexOutOfBoundsException" U ∧ va_Nc "java/lang/IllegalStateException" "java/lang/IllegalArgumentException" U
theorem wl_T9_w {A B : Nat → Prop} {s U : State} {H : Heap} {locs : List Loc} (hU : U.heap = H) (hW : s.WarmedH U.vm) (hS : va_S A s.heap H locs) (hAB : ∀ q, B q → A q) (h : wl_T9 A s) : wl_T9 B U :=
  ⟨wl_T_w hU hW hS hAB h.1, h.2.1.moved hW.alike, h.2.2.moved hW.alike⟩
theorem wl_T9_b {A : Nat → Prop} : FrameBlind (fun _ U => wl_T9 A U) := fun a U g mk h =>
  ⟨wl_T_b a U g mk h.1, h.2.1.moved (U := U.calling g mk a) (Vm.Alike.refl U.vm), h.2.2.moved (U := U.calling g mk a) (Vm.Alike.refl U.vm)⟩
theorem wl_ofH {l : Launch} {y : MethodName} {ws ws' : List Cond} {rm : Room} {D : va_G} {cy : Nat → ClassId} {X : State → Prop} {bs : List va_W} {sz : Nat} {av : List Value} {Qc : Array Value → State → Outcome → State → Prop} {cc : ByteArray} {maxL : Nat} {ret : Option FieldType} {hh : List (Nat × Nat × Nat × Nat)} {mc ms : Nat} {free : Addr → Prop} (hy : plainName y.cls = true) (hw : ws = Cond.codeWith y cc maxL ret hh :: ws') (hn : (lg_sl av).length ≤ maxL)
    (body : ∀ (p : Program) (e : Env) (s : State) (m : MethodId) (below : List Frame) (meth : Method) (c : Code) (ls : Array Slot) (A : Nat → Prop), p.tables.exec = Jvm.exec → c.code = cc → meth.sig.returnType = ret → (∀ w ∈ ws, w.before av.toArray s = true) → s.vm.findClass y.cls = some m.cls → meth.locks = false → c.maxLocals = maxL → c.exceptionTable.toList = tableOf hh → s.heap.size = sz → va_A bs.flatten sz = A → va_P D vwCl bs.flatten s.heap → va_K D vwCl (tyE cy) s → va_D A bs.flatten → X s → (∀ q : Nat, s.heap.size ≤ q → A q) → va_S A s.heap s.heap [] → lv_has ls maxL (lv_args 0 av) → W p l e rm s m av.toArray below meth c s.heap [] 0 0 (MQ below Qc av.toArray s mc ms free) (F0 m 0 ls [])) : Met l y ws rm (wl_ic D cy X bs sz av) Qc mc ms free := by
  refine MetFree.of_bodyS (code := cc) (maxLocals := maxL) (ret := ret) hy ?_ ?_
  · intro args s m h hn
    obtain ⟨m9, meth, c, hn9, h1, h2, h3, h4, -, h5, h6, -⟩ := Cond.codeWith_spec (atoms_spec (ws := ws) h _ (by rw [hw]; exact List.mem_cons_self))
    cases hn.symm.trans hn9
    exact ⟨meth, c, h1, h2, h3, h4, h5, h6⟩
  · intro p e s m args below meth c s₁ B hml hv _
    have hh0 : s₁.heap = s.heap := by rw [B.state]; rfl
    obtain ⟨rfl, hsz, hP, hK, hD, hX⟩ := hv
    have hl := lv_entry av (n := maxL) hn
    have htab := vx_table (x := y) B (atoms_spec (ws := ws) B.pre _ (by rw [hw]; exact List.mem_cons_self))
    have K := body p e s m below meth c _ _ B.exec B.bytes B.returns (atoms_spec (ws := ws) B.pre) (findClass_of_methodNamed B.named) B.notSynchronized hml htab hsz rfl hP hK hD.self hX (fun q h => Or.inr (by rw [← hsz]; exact h)) va_S.rf hl
    rw [← lg_entry_eq] at K
    obtain ⟨t, a1, o, b1, b2, b3⟩ := K s₁ hh0 (Stand.of_body B)
    exact ⟨t, o, a1, b1, b2, b3⟩
section WX
variable {p : Program} {l : Launch} {e : Env} {R : Room} {s : State} {m : MethodId} {args : Array Value} {below : List Frame} {meth : Method} {c : Code} {H : Heap} {locs : List Loc} {cells slots : Nat} {Q : State → Prop}
variable {cc bytes : ByteArray} {pc nL maxL n index : Nat} {ls : Array Slot} {rest st As : List Value} {D : va_G} {cy : Nat → ClassId} {A : Nat → Prop} {a b : Nat} {bs bsC bsR : List va_W} {H0 : Heap}
variable {Ts wsy : List Cond} {own C : String} {y : MethodName} {ret : Option FieldType} {rm : Room} {mc ms : Nat}
theorem wl_last (hx : p.tables.exec = Jvm.exec) (hb : c.code = cc) (hK : va_K D vwCl (tyE cy) s) (hP : va_P D vwCl bs.flatten H) (hD : va_D A bs.flatten) (hS : va_S A H0 H locs) (j i : Nat) {b : va_W} (hj : bs[j]? = some b) {n : Nat} {f : Nat → Int64} (hi : b[i]? = some (a, .inl (cy 4, n, .inr (.inl f)))) (k : Nat) (hk : k < n) (hn : n < 2 ^ 31) {x : Int64} (hdg : decode cc pc = .ok (.lastore, 1))
    (kk : ∀ (H1 : Heap) (locs1 : List Loc), va_P D vwCl (bs.set j (b.set i (a, .inl (cy 4, n, .inr (.inl (vp_updL f k x)))))).flatten H1 → va_D A (bs.set j (b.set i (a, .inl (cy 4, n, .inr (.inl (vp_updL f k x)))))).flatten → va_S A H0 H1 locs1 → W p l e R s m args below meth c H1 locs1 cells slots Q (F0 m (pc + 1) ls rest)) : W p l e R s m args below meth c H locs cells slots Q (F0 m pc ls (.long x :: .int (nI k) :: .ref a :: rest)) :=
  va_last hx hb hK hP hD hS (wl_off bs j + i) 4 (wl_get hj hi) rfl (vp_in_nI hk hn) hdg (fun H1 locs1 h1 h2 h3 => by
    rw [nI_clamp (Nat.lt_trans hk hn), wl_set hj hi] at h1 h2
    exact kk H1 locs1 h1 h2 h3)
theorem wl_lald (hx : p.tables.exec = Jvm.exec) (hb : c.code = cc) (hK : va_K D vwCl (tyE cy) s) (hP : va_P D vwCl bs.flatten H) (j i : Nat) {b : va_W} (hj : bs[j]? = some b) {n : Nat} {f : Nat → Int64} (hi : b[i]? = some (a, .inl (cy 4, n, .inr (.inl f)))) (k : Nat) (hk : k < n) (hn : n < 2 ^ 31) (hdg : decode cc pc = .ok (.laload, 1))
    (kk : W p l e R s m args below meth c H locs cells slots Q (F0 m (pc + 1) ls (.long (f k) :: rest))) : W p l e R s m args below meth c H locs cells slots Q (F0 m pc ls (.int (nI k) :: .ref a :: rest)) :=
  va_lald hx hb hK hP (wl_off bs j + i) 4 (wl_get hj hi) rfl (vp_in_nI hk hn) hdg (by rw [nI_clamp (Nat.lt_trans hk hn)]; exact kk)
/-- a call that throws the class cls, its world as it was -/
theorem wl_xcall {cls : String} (S : CallFix p m c cc nL s args Ts own) (hM : vx_Met l y wsy rm (wl_ic D cy (wl_T (va_A bsC.flatten H.size)) bsC H.size (.ref b :: As)) (va_Qi (fun (_ : Int32) (_ : List va_W) => False) (wl_ib D bsC H.size) (va_A bsC.flatten H.size)) (wl_XC D bsC H.size (fun E : String => E = cls)) mc ms (va_A bsC.flatten H.size)) (cw : CallW R s args own C index y bytes maxL ret wsy rm mc ms n) (hT : wl_T A s) (hK : va_K D vwCl (tyE cy) s) (hP : va_P D vwCl (bsC ++ bsR).flatten H) (hD : va_D A (bsC ++ bsR).flatten) (hS : va_S A s.heap H locs) (hA : ∀ q, s.heap.size ≤ q → A q) {b0 : va_W} (h0 : bsC[0]? = some b0) {ci : Nat} {fs : List Value} (h1 : b0[0]? = some (b, .inr (ci, fs))) {rC : vw_C} (hc : vwCl[ci]? = some rC) (hC : rC.1 = C)
    (hn : As.length = n) (hsize : ls.size = nL) (hst : st = As.reverse ++ .ref b :: rest) (hrm : (rest.map fun v => v.category).sum ≤ 8) (hdg : decode cc pc = .ok (.invokevirtual index, 3)) (hcl : cells + mc ≤ R.cells ∧ slots + ms ≤ R.slots)
    (kx : ∀ (ce : Cell) (q9 : Addr) (H1 : Heap) (locs1 : List Loc), va_P D vwCl (bsC ++ bsR).flatten H1 → va_D A (bsC ++ bsR).flatten → va_S A s.heap H1 locs1 → H1[q9]? = some ce → ce.vm = .none → s.vm.findClass cls = some ce.cls → vx_W p l e R s m args below meth c H1 locs1 (cells + mc) (slots + ms) Q (F0 m pc ls rest) q9) : W p l e R s m args below meth c H locs cells slots Q (F0 m pc ls st) := by
  have hF := wl_freeB hD hS hA
  refine vx_calli (vx_runV S hM cw (wl_preVi wl_T_b (fun U hU hW => wl_T_w hU hW hS hF hT) hK hP hD h0 h1 hc hC) rfl hn hsize hst (lv_room (m := m) (pc := pc) (ls := ls) (rest := st) hrm) hdg hcl) hS (fun q _ h => hF q h) hF (fun q _ h => hF q h) (fun E ce q9 u t H1 locs1 ht hvm hu hB hz hk hS1 hce hcv hcl9 => ?_) (fun r u t H1 locs1 _ _ hw => hw.elim)
  subst hu
  obtain ⟨hE, hB1, hB2⟩ := hB
  subst hE
  rw [ht] at hB1
  obtain ⟨g1, g2⟩ := wl_joinB hP hD hF hk hB1 hB2
  exact kx ce q9 H1 locs1 g1 g2 hS1 hce hcv hcl9
end WX
