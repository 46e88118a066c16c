/-! OWN LIBRARY 5: new cells, copied rows -/
theorem wl_cong {c : ClassId} {n : Nat} {f g : Nat → Int32} (h : ∀ j, j < n → f j = g j) : vp_cell c (n, .inl f) = vp_cell c (n, .inl g) := by
  show arrV c n (fun j => .int (f j)) = arrV c n (fun j => .int (g j))
  unfold arrV
  congr 1
  apply Array.ext
  · simp
  · intro i h1 h2
    have hi : i < n := by simpa using h1
    simp [h i hi]
theorem wl_Pset {D : va_G} {cl : List vw_C} {ws : va_W} {k a : Nat} {x y : ClassId × vp_A} {H : Heap} (hk : k < ws.length) (he : vp_cell x.1 x.2 = vp_cell y.1 y.2) (h : va_P D cl (ws.set k (a, .inl x)) H) : va_P D cl (ws.set k (a, .inl y)) H := by
  intro i q hi
  by_cases hik : i = k
  · subst hik
    rw [List.getElem?_set_self hk] at hi
    cases hi
    have h2 := h i (a, .inl x) (List.getElem?_set_self hk)
    show H[a]? = some (vp_cell y.1 y.2)
    rw [← he]
    exact h2
  · rw [List.getElem?_set_ne (Ne.symm hik)] at hi
    exact h i q (by rw [List.getElem?_set_ne (Ne.symm hik)]; exact hi)
theorem wl_app1 {bs : List va_W} {x : Nat × va_E} : (bs ++ [[x]]).flatten = bs.flatten ++ [x] := by simp
section WN
variable {p : Program} {l : Launch} {e : Env} {R : Room} {s : State} {m : MethodId} {args : Array Value} {below : List Frame} {meth : Method} {c : Code} {H : Heap} {locs : List Loc} {cells slots : Nat} {Q : State → Prop}
variable {cc : ByteArray} {pc : Nat} {ls : Array Slot} {rest : List Value} {D : va_G} {cy : Nat → ClassId} {A : Nat → Prop} {a : Nat} {bs : List va_W} {H0 : Heap}
theorem wl_copyi (hx : p.tables.exec = Jvm.exec) (hb : c.code = cc) (hml : c.maxLocals = ls.size) {own : String} {index : Nat} (hown : s.vm.findClass own = some m.cls) (hlink : (Cond.methodLink own index arraycopyName).before args s = true) (hnat : (Cond.native arraycopyName).before args s = true) (hstat : (Cond.static arraycopyName).before args s = true) (hini : (Cond.initialized "java/lang/System").before args s = true)
    (hK : va_K D vwCl (tyE cy) s) (hP : va_P D vwCl bs.flatten H) (hD : va_D A bs.flatten) (hS : va_S A H0 H locs) (j0 i0 j1 i1 : Nat) {b0 b1 : va_W} {a0 n : Nat} {f g : Nat → Int32} (hj0 : bs[j0]? = some b0) (hi0 : b0[i0]? = some (a0, .inl (cy 0, n, .inl f))) (hj1 : bs[j1]? = some b1) (hi1 : b1[i1]? = some (a, .inl (cy 0, n, .inl g))) (hn : n < 2 ^ 31)
    (hframes : 1 ≤ R.frames) (hlocals : (rest.map fun v => v.category).sum + (nativeFrameWords "java/lang/System" "arraycopy" 5 + 11) ≤ R.locals) (hdg : decode cc pc = .ok (.invokestatic index, 3))
    (kk : ∀ (H1 : Heap) (locs1 : List Loc), va_P D vwCl (bs.set j1 (b1.set i1 (a, .inl (cy 0, n, .inl f)))).flatten H1 → va_D A (bs.set j1 (b1.set i1 (a, .inl (cy 0, n, .inl f)))).flatten → va_S A H0 H1 locs1 → W p l e R s m args below meth c H1 locs1 cells slots Q (F0 m (pc + 3) ls rest)) : W p l e R s m args below meth c H locs cells slots Q (F0 m pc ls (.int (nI n) :: .int 0 :: .ref a :: .int 0 :: .ref a0 :: rest)) := by
  have e0 : (0 : Int32).toNatClampNeg = 0 := by decide
  have en : (nI n).toNatClampNeg = n := nI_clamp hn
  have hg := wl_get hj1 hi1
  refine va_copyi hx hb hml hown hlink hnat hstat hini hK hP hD hS (wl_off bs j0 + i0) (wl_off bs j1 + i1) 0 0 (wl_get hj0 hi0) hg rfl rfl rfl (by decide) (by decide) (nI_pos hn) (by rw [e0, en]; omega) (by rw [e0, en]; omega) (fun i _ => rfl) hframes hlocals hdg (fun H1 locs1 h1 h2 h3 => ?_)
  rw [e0, en] at h1
  have h4 := wl_Pset (y := (cy 0, n, .inl f)) (List.getElem?_eq_some_iff.mp hg).1 (wl_cong (fun j hj => by rw [pk_cpy_in (Nat.zero_le j) (by omega)]; simp)) h1
  rw [wl_set hj1 hi1] at h4
  have h5 : va_D A (bs.flatten.set (wl_off bs j1 + i1) (a, .inl (cy 0, n, .inl f))) := hD.set hg
  rw [wl_set hj1 hi1] at h5
  exact kk H1 locs1 h4 h5 h3
theorem wl_newai (hx : p.tables.exec = Jvm.exec) (hb : c.code = cc) (harr : (Cond.arrayClass .int).before args s = true) (hK : va_K D vwCl (tyE cy) s) (hP : va_P D vwCl bs.flatten H) (hD : va_D A bs.flatten) (hS : va_S A H0 H locs) (hA : ∀ q, H0.size ≤ q → A q) (N' : Nat) (hn : N' < 2 ^ 27) (hcells : cells + 1 ≤ R.cells) (hslots : slots + N' ≤ R.slots) (hdg : decode cc pc = .ok (.newarray .int, 2))
    (kk : ∀ (q : Nat) (H1 : Heap), va_P D vwCl (bs ++ [([(q, .inl (cy 0, N', .inl (fun _ => 0)))] : va_W)]).flatten H1 → va_D A (bs ++ [([(q, .inl (cy 0, N', .inl (fun _ => 0)))] : va_W)]).flatten → va_S A H0 H1 locs → W p l e R s m args below meth c H1 locs (cells + 1) (slots + N') Q (F0 m (pc + 2) ls (.ref q :: rest))) : W p l e R s m args below meth c H locs cells slots Q (F0 m pc ls (.int (nI N') :: rest)) := by
  refine va_newa (atype := .int) (ty := .int) (N' := N') (a0 := (N', .inl (fun _ => 0))) hx hb harr rfl hK hP hD hS hA (fun _ => rfl) (nI_pos (by omega)) (nI_clamp (by omega)) (by show N' * 4 ≤ 536870912; omega) hcells hslots hdg (fun q cA H1 hK1 hP1 hD1 hS1 => ?_)
  have e : cA = cy 0 := by
    have h1 : s.vm.findClass ("[" ++ FieldType.int.toString) = some cA := (hK1.2 5 (cA, .int) rfl).2
    have h2 : s.vm.findClass ("[" ++ FieldType.int.toString) = some (cy 0) := (hK.2 0 (cy 0, .int) rfl).2
    exact Option.some.inj (h1.symm.trans h2)
  subst e
  exact kk q H1 (by rw [wl_app1]; exact hP1) (by rw [wl_app1]; exact hD1) hS1
theorem wl_newac (hx : p.tables.exec = Jvm.exec) (hb : c.code = cc) (harr : (Cond.arrayClass .char).before args s = true) (hK : va_K D vwCl (tyE cy) s) (hP : va_P D vwCl bs.flatten H) (hD : va_D A bs.flatten) (hS : va_S A H0 H locs) (hA : ∀ q, H0.size ≤ q → A q) (N' : Nat) (hn : N' < 2 ^ 27) (hcells : cells + 1 ≤ R.cells) (hslots : slots + N' ≤ R.slots) (hdg : decode cc pc = .ok (.newarray .char, 2))
    (kk : ∀ (q : Nat) (H1 : Heap), va_P D vwCl (bs ++ [([(q, .inl (cy 1, N', .inl (fun _ => 0)))] : va_W)]).flatten H1 → va_D A (bs ++ [([(q, .inl (cy 1, N', .inl (fun _ => 0)))] : va_W)]).flatten → va_S A H0 H1 locs → W p l e R s m args below meth c H1 locs (cells + 1) (slots + N') Q (F0 m (pc + 2) ls (.ref q :: rest))) : W p l e R s m args below meth c H locs cells slots Q (F0 m pc ls (.int (nI N') :: rest)) := by
  refine va_newa (atype := .char) (ty := .char) (N' := N') (a0 := (N', .inl (fun _ => 0))) hx hb harr rfl hK hP hD hS hA (fun _ => rfl) (nI_pos (by omega)) (nI_clamp (by omega)) (by show N' * 2 ≤ 536870912; omega) hcells hslots hdg (fun q cA H1 hK1 hP1 hD1 hS1 => ?_)
  have e : cA = cy 1 := by
    have h1 : s.vm.findClass ("[" ++ FieldType.char.toString) = some cA := (hK1.2 5 (cA, .char) rfl).2
    have h2 : s.vm.findClass ("[" ++ FieldType.char.toString) = some (cy 1) := (hK.2 1 (cy 1, .char) rfl).2
    exact Option.some.inj (h1.symm.trans h2)
  subst e
  exact kk q H1 (by rw [wl_app1]; exact hP1) (by rw [wl_app1]; exact hD1) hS1
theorem wl_newaq (hx : p.tables.exec = Jvm.exec) (hb : c.code = cc) {own : String} {index : Nat} (hown : s.vm.findClass own = some m.cls) (hclink : (Cond.classLink own index "WireLamps$State").before args s = true) (hover : va_AO "WireLamps$State" s) (hK : va_K D vwCl (tyE cy) s) (hP : va_P D vwCl bs.flatten H) (hD : va_D A bs.flatten) (hS : va_S A H0 H locs) (hA : ∀ q, H0.size ≤ q → A q) (N' : Nat) (hn : N' < 2 ^ 27) (hcells : cells + 1 ≤ R.cells) (hslots : slots + N' ≤ R.slots) (hdg : decode cc pc = .ok (.anewarray index, 3))
    (kk : ∀ (q : Nat) (H1 : Heap), va_P D vwCl (bs ++ [([(q, .inl (cy 3, N', .inr (.inr (.inr (.inr (fun _ => none))))))] : va_W)]).flatten H1 → va_D A (bs ++ [([(q, .inl (cy 3, N', .inr (.inr (.inr (.inr (fun _ => none))))))] : va_W)]).flatten → va_S A H0 H1 locs → W p l e R s m args below meth c H1 locs (cells + 1) (slots + N') Q (F0 m (pc + 3) ls (.ref q :: rest))) : W p l e R s m args below meth c H locs cells slots Q (F0 m pc ls (.int (nI N') :: rest)) := by
  refine va_newq hx hb hown hclink hover hK hP hD hS hA (nI_pos (by omega)) (nI_clamp (by omega)) (by omega) hcells hslots hdg (fun q cA H1 hK1 hP1 hD1 hS1 => ?_)
  have e : cA = cy 3 := by
    obtain ⟨k1, c1, -, -, -, h1⟩ := (hK1.2 5 (cA, .object "WireLamps$State") rfl).2
    obtain ⟨k2, c2, -, -, -, h2⟩ := (hK.2 3 (cy 3, .object "WireLamps$State") rfl).2
    exact Option.some.inj (h1.symm.trans h2)
  subst e
  exact kk q H1 (by rw [wl_app1]; exact hP1) (by rw [wl_app1]; exact hD1) hS1
theorem wl_new {own C : String} {T : u_T} {N ci index : Nat} {Ts : List Cond} (hx : p.tables.exec = Jvm.exec) (hb : c.code = cc) (hts : ∀ w ∈ Ts, w.before args s = true) (hin : ∀ w ∈ u_ws C T N, w ∈ Ts) (ty : Nat → FieldType) (hty : ∀ k, k < N → parseFieldDescriptor (T k).2.2.1 = some (ty k)) (hown : s.vm.findClass own = some m.cls) (hcl : (Cond.classLink own index C).before args s = true) (hinst : (Cond.instantiable C N).before args s = true) (hini : (Cond.initialized C).before args s = true)
    (hK : va_K D vwCl (tyE cy) s) (hP : va_P D vwCl bs.flatten H) (hD : va_D A bs.flatten) (hS : va_S A H0 H locs) (hA : ∀ q, H0.size ≤ q → A q) (hc : vwCl[ci]? = some (C, T, N)) (fs : List Value) (hfs : (List.range N).all (fun j => decide (defaultValue (ty j) = vp_V fs j)) = true) (hcells : cells + 1 ≤ R.cells) (hslots : slots + N ≤ R.slots) (hdg : decode cc pc = .ok (.new index, 3))
    (kk : ∀ (q : Nat) (H1 : Heap), va_P D vwCl (bs ++ [([(q, .inr (ci, fs))] : va_W)]).flatten H1 → va_D A (bs ++ [([(q, .inr (ci, fs))] : va_W)]).flatten → va_S A H0 H1 locs → W p l e R s m args below meth c H1 locs (cells + 1) (slots + N) Q (F0 m (pc + 3) ls (.ref q :: rest))) : W p l e R s m args below meth c H locs cells slots Q (F0 m pc ls rest) :=
  va_new hx hb hts hin ty hty hown hcl hinst hini hK hP hD hS hA hc (fun j hj => of_decide_eq_true (List.all_eq_true.mp hfs j (List.mem_range.mpr hj))) hcells hslots hdg (fun q H1 h1 h2 h3 => kk q H1 (by rw [wl_app1]; exact h1) (by rw [wl_app1]; exact h2) h3)
end WN
/-- eight, four, two addresses -/
def q_a8 (a b c d e f g h : Nat) : Nat → Nat := fun k => if k = 0 then a else if k = 1 then b else if k = 2 then c else if k = 3 then d else if k = 4 then e else if k = 5 then f else if k = 6 then g else h
def q_a7 (a b c d e f g : Nat) : Nat → Nat := fun k => if k = 0 then a else if k = 1 then b else if k = 2 then c else if k = 3 then d else if k = 4 then e else if k = 5 then f else g
def q_a4 (a b c d : Nat) : Nat → Nat := fun k => if k = 0 then a else if k = 1 then b else if k = 2 then c else d
def q_a2 (a b : Nat) : Nat → Nat := fun k => if k = 0 then a else b
/-- what a new State holds -/
def q_z0 : Nat → Nat → Int32 := fun _ _ => 0
def q_s0 : Nat → Nat → Int32 := su (su (su q_z0 5 0 6) 5 1 1) 5 2 360
