/-! OWN LIBRARY 3: calls over blocks -/
section WC
variable {p : Program} {l : Launch} {e : Env} {R : Room} {s : State} {m : MethodId} {args : Array Value} {below : List Frame} {meth : Method} {c : Code} {H : Heap} {locs : List Loc} {cells slots : Nat} {Q : State → Prop}
variable {cc bytes : ByteArray} {pc nL maxL n index : Nat} {ls : Array Slot} {rest st As : List Value} {D : va_G} {cy : Nat → ClassId} {A : Nat → Prop} {b : Nat} {bs bsC bsR : List va_W} {H0 : Heap}
variable {Ts wsy : List Cond} {own C : String} {y : MethodName} {ret : Option FieldType} {rm : Room} {mc ms : Nat} {X : State → Prop}
theorem wl_preV (hK : va_K D vwCl (tyE cy) s) (hP : va_P D vwCl bs.flatten H) (is : List Nat) (hs : is.map (fun i => bs[i]?) = bsC.map some) {b0 : va_W} (h0 : bsC[0]? = some b0) {ci : Nat} {fs : List Value} (h1 : b0[0]? = some (b, .inr (ci, fs))) {rC : vw_C} (hc : vwCl[ci]? = some rC) (hC : rC.1 = C) : PreV s H C b (wl_pc D cy bsC (.ref b :: As)) As := by
  have hPc := wl_Psub is hs hP
  subst hC
  refine ⟨wl_pblind, ?_, fun U hU hW => ⟨rfl, by rw [hU]; exact hPc, va_K.moved hW.alike hK⟩⟩
  exact va_recv hK hPc hc (wl_get (j := 0) (i := 0) h0 h1)
theorem wl_preS (hK : va_K D vwCl (tyE cy) s) (hP : va_P D vwCl bs.flatten H) (is : List Nat) (hs : is.map (fun i => bs[i]?) = bsC.map some) : PreS s H (wl_pc D cy bsC As) As :=
  ⟨wl_pblind, fun U hU hW => ⟨rfl, by rw [hU]; exact wl_Psub is hs hP, va_K.moved hW.alike hK⟩⟩
/-- reading calls: an int, a long, a double, a reference -/
theorem wl_pV {post : Int32 → Prop} (S : CallFix p m c cc nL s args Ts own) (hM : Met l y wsy rm (wl_pc D cy bsC (.ref b :: As)) (vp_Si post) 0 0 (fun _ => False)) (cw : CallW R s args own C index y bytes maxL ret wsy rm 0 0 n) (hK : va_K D vwCl (tyE cy) s) (hP : va_P D vwCl bs.flatten H) (is : List Nat) (hs : is.map (fun i => bs[i]?) = bsC.map some) {b0 : va_W} (h0 : bsC[0]? = some b0) {ci : Nat} {fs : List Value} (h1 : b0[0]? = some (b, .inr (ci, fs))) {rC : vw_C} (hc : vwCl[ci]? = some rC) (hC : rC.1 = C)
    (hn : As.length = n) (hsize : ls.size = nL) (hst : st = As.reverse ++ .ref b :: rest) (hrm : (rest.map fun v => v.category).sum ≤ 8) (hdg : decode cc pc = .ok (.invokevirtual index, 3)) (hcl : cells ≤ R.cells ∧ slots ≤ R.slots)
    (kk : ∀ r : Int32, post r → W p l e R s m args below meth c H locs cells slots Q (F0 m (pc + 3) ls (.int r :: rest))) : W p l e R s m args below meth c H locs cells slots Q (F0 m pc ls st) :=
  vp_callSi (W.runV S hM cw (wl_preV hK hP is hs h0 h1 hc hC) rfl hn hsize hst (lv_room (m := m) (pc := pc) (ls := ls) (rest := st) hrm) hdg hcl) kk
theorem wl_pVl {post : Int64 → Prop} (S : CallFix p m c cc nL s args Ts own) (hM : Met l y wsy rm (wl_pc D cy bsC (.ref b :: As)) (vp_Sl post) 0 0 (fun _ => False)) (cw : CallW R s args own C index y bytes maxL ret wsy rm 0 0 n) (hK : va_K D vwCl (tyE cy) s) (hP : va_P D vwCl bs.flatten H) (is : List Nat) (hs : is.map (fun i => bs[i]?) = bsC.map some) {b0 : va_W} (h0 : bsC[0]? = some b0) {ci : Nat} {fs : List Value} (h1 : b0[0]? = some (b, .inr (ci, fs))) {rC : vw_C} (hc : vwCl[ci]? = some rC) (hC : rC.1 = C)
    (hn : As.length = n) (hsize : ls.size = nL) (hst : st = As.reverse ++ .ref b :: rest) (hrm : (rest.map fun v => v.category).sum ≤ 8) (hdg : decode cc pc = .ok (.invokevirtual index, 3)) (hcl : cells ≤ R.cells ∧ slots ≤ R.slots)
    (kk : ∀ r : Int64, post r → W p l e R s m args below meth c H locs cells slots Q (F0 m (pc + 3) ls (.long r :: rest))) : W p l e R s m args below meth c H locs cells slots Q (F0 m pc ls st) :=
  vp_callSl (W.runV S hM cw (wl_preV hK hP is hs h0 h1 hc hC) rfl hn hsize hst (lv_room (m := m) (pc := pc) (ls := ls) (rest := st) hrm) hdg hcl) kk
theorem wl_pVd {post : UInt64 → Prop} (S : CallFix p m c cc nL s args Ts own) (hM : Met l y wsy rm (wl_pc D cy bsC (.ref b :: As)) (vp_Sd post) 0 0 (fun _ => False)) (cw : CallW R s args own C index y bytes maxL ret wsy rm 0 0 n) (hK : va_K D vwCl (tyE cy) s) (hP : va_P D vwCl bs.flatten H) (is : List Nat) (hs : is.map (fun i => bs[i]?) = bsC.map some) {b0 : va_W} (h0 : bsC[0]? = some b0) {ci : Nat} {fs : List Value} (h1 : b0[0]? = some (b, .inr (ci, fs))) {rC : vw_C} (hc : vwCl[ci]? = some rC) (hC : rC.1 = C)
    (hn : As.length = n) (hsize : ls.size = nL) (hst : st = As.reverse ++ .ref b :: rest) (hrm : (rest.map fun v => v.category).sum ≤ 8) (hdg : decode cc pc = .ok (.invokevirtual index, 3)) (hcl : cells ≤ R.cells ∧ slots ≤ R.slots)
    (kk : ∀ r : UInt64, post r → W p l e R s m args below meth c H locs cells slots Q (F0 m (pc + 3) ls (.double r :: rest))) : W p l e R s m args below meth c H locs cells slots Q (F0 m pc ls st) :=
  vp_callSd (W.runV S hM cw (wl_preV hK hP is hs h0 h1 hc hC) rfl hn hsize hst (lv_room (m := m) (pc := pc) (ls := ls) (rest := st) hrm) hdg hcl) kk
theorem wl_pVq {post : Option Nat → Prop} (S : CallFix p m c cc nL s args Ts own) (hM : Met l y wsy rm (wl_pc D cy bsC (.ref b :: As)) (va_Sq post) 0 0 (fun _ => False)) (cw : CallW R s args own C index y bytes maxL ret wsy rm 0 0 n) (hK : va_K D vwCl (tyE cy) s) (hP : va_P D vwCl bs.flatten H) (is : List Nat) (hs : is.map (fun i => bs[i]?) = bsC.map some) {b0 : va_W} (h0 : bsC[0]? = some b0) {ci : Nat} {fs : List Value} (h1 : b0[0]? = some (b, .inr (ci, fs))) {rC : vw_C} (hc : vwCl[ci]? = some rC) (hC : rC.1 = C)
    (hn : As.length = n) (hsize : ls.size = nL) (hst : st = As.reverse ++ .ref b :: rest) (hrm : (rest.map fun v => v.category).sum ≤ 8) (hdg : decode cc pc = .ok (.invokevirtual index, 3)) (hcl : cells ≤ R.cells ∧ slots ≤ R.slots)
    (kk : ∀ r : Option Nat, post r → W p l e R s m args below meth c H locs cells slots Q (F0 m (pc + 3) ls (va_rf r :: rest))) : W p l e R s m args below meth c H locs cells slots Q (F0 m pc ls st) :=
  va_csq (W.runV S hM cw (wl_preV hK hP is hs h0 h1 hc hC) rfl hn hsize hst (lv_room (m := m) (pc := pc) (ls := ls) (rest := st) hrm) hdg hcl) kk
theorem wl_pS {post : Int32 → Prop} (S : CallFix p m c cc nL s args Ts own) (hM : Met l y wsy rm (wl_pc D cy bsC As) (vp_Si post) 0 0 (fun _ => False)) (cw : CallB R s args own index y bytes maxL ret wsy rm 0 0 n ∧ (Cond.static y).before args s = true) (hK : va_K D vwCl (tyE cy) s) (hP : va_P D vwCl bs.flatten H) (is : List Nat) (hs : is.map (fun i => bs[i]?) = bsC.map some)
    (hn : As.length = n) (hsize : ls.size = nL) (hst : st = As.reverse ++ rest) (hrm : (rest.map fun v => v.category).sum ≤ 8) (hdg : decode cc pc = .ok (.invokestatic index, 3)) (hcl : cells ≤ R.cells ∧ slots ≤ R.slots)
    (kk : ∀ r : Int32, post r → W p l e R s m args below meth c H locs cells slots Q (F0 m (pc + 3) ls (.int r :: rest))) : W p l e R s m args below meth c H locs cells slots Q (F0 m pc ls st) :=
  vp_callSi (W.runS S hM cw (wl_preS hK hP is hs) rfl hn hsize hst (lv_room (m := m) (pc := pc) (ls := ls) (rest := st) hrm) hdg hcl) kk
theorem wl_pSl {post : Int64 → Prop} (S : CallFix p m c cc nL s args Ts own) (hM : Met l y wsy rm (wl_pc D cy bsC As) (vp_Sl post) 0 0 (fun _ => False)) (cw : CallB R s args own index y bytes maxL ret wsy rm 0 0 n ∧ (Cond.static y).before args s = true) (hK : va_K D vwCl (tyE cy) s) (hP : va_P D vwCl bs.flatten H) (is : List Nat) (hs : is.map (fun i => bs[i]?) = bsC.map some)
    (hn : As.length = n) (hsize : ls.size = nL) (hst : st = As.reverse ++ rest) (hrm : (rest.map fun v => v.category).sum ≤ 8) (hdg : decode cc pc = .ok (.invokestatic index, 3)) (hcl : cells ≤ R.cells ∧ slots ≤ R.slots)
    (kk : ∀ r : Int64, post r → W p l e R s m args below meth c H locs cells slots Q (F0 m (pc + 3) ls (.long r :: rest))) : W p l e R s m args below meth c H locs cells slots Q (F0 m pc ls st) :=
  vp_callSl (W.runS S hM cw (wl_preS hK hP is hs) rfl hn hsize hst (lv_room (m := m) (pc := pc) (ls := ls) (rest := st) hrm) hdg hcl) kk
/-- calls that change their world -/
theorem wl_preVi (hXb : FrameBlind (fun _ U => X U)) (hXs : ∀ U : State, U.heap = H → s.WarmedH U.vm → X U) (hK : va_K D vwCl (tyE cy) s) (hP : va_P D vwCl (bsC ++ bsR).flatten H) (hD : va_D A (bsC ++ bsR).flatten) {b0 : va_W} (h0 : bsC[0]? = some b0) {ci : Nat} {fs : List Value} (h1 : b0[0]? = some (b, .inr (ci, fs))) {rC : vw_C} (hc : vwCl[ci]? = some rC) (hC : rC.1 = C) : PreV s H C b (wl_ic D cy X bsC H.size (.ref b :: As)) As := by
  rw [List.flatten_append] at hP hD
  have hPc : va_P D vwCl bsC.flatten H := wl_P.mpr fun q hq => wl_P.mp hP q (List.mem_append_left _ hq)
  subst hC
  refine ⟨wl_iblind hXb, ?_, fun U hU hW => ⟨rfl, by rw [hU], by rw [hU]; exact hPc, va_K.moved hW.alike hK, (wl_Dl hD).weaken (fun _ _ _ _ => trivial), hXs U hU hW⟩⟩
  exact va_recv hK hPc hc (wl_get (j := 0) (i := 0) h0 h1)
theorem wl_preSi (hXb : FrameBlind (fun _ U => X U)) (hXs : ∀ U : State, U.heap = H → s.WarmedH U.vm → X U) (hK : va_K D vwCl (tyE cy) s) (hP : va_P D vwCl (bsC ++ bsR).flatten H) (hD : va_D A (bsC ++ bsR).flatten) : PreS s H (wl_ic D cy X bsC H.size As) As := by
  rw [List.flatten_append] at hP hD
  have hPc : va_P D vwCl bsC.flatten H := wl_P.mpr fun q hq => wl_P.mp hP q (List.mem_append_left _ hq)
  exact ⟨wl_iblind hXb, fun U hU hW => ⟨rfl, by rw [hU], by rw [hU]; exact hPc, va_K.moved hW.alike hK, (wl_Dl hD).weaken (fun _ _ _ _ => trivial), hXs U hU hW⟩⟩
theorem wl_freeB {locs : List Loc} (hD : va_D A (bsC ++ bsR).flatten) (hS : va_S A H0 H locs) (hA : ∀ q, H0.size ≤ q → A q) : ∀ q, va_A bsC.flatten H.size q → A q := by
  rw [List.flatten_append] at hD
  exact wl_free hD hS hA
theorem wl_joinB {bs1 : List va_W} {H1 : Heap} (hP : va_P D vwCl (bsC ++ bsR).flatten H) (hD : va_D A (bsC ++ bsR).flatten) (hF : ∀ q, va_A bsC.flatten H.size q → A q) (hk : ∀ q : Nat, q < H.size → ¬ va_A bsC.flatten H.size q → H1[q]? = H[q]?) (hP1 : va_P D vwCl bs1.flatten H1) (hD1 : va_D (va_A bsC.flatten H.size) bs1.flatten) : va_P D vwCl (bs1 ++ bsR).flatten H1 ∧ va_D A (bs1 ++ bsR).flatten := by
  rw [List.flatten_append] at hP hD ⊢
  exact wl_join hP hD hF hk hP1 hD1
theorem wl_iV {post : Int32 → List va_W → Prop} (S : CallFix p m c cc nL s args Ts own) (hM : Met l y wsy rm (wl_ic D cy X bsC H.size (.ref b :: As)) (va_Qi post (wl_ib D bsC H.size) (va_A bsC.flatten H.size)) mc ms (va_A bsC.flatten H.size)) (cw : CallW R s args own C index y bytes maxL ret wsy rm mc ms n) (hXb : FrameBlind (fun _ U => X U)) (hXs : ∀ U : State, U.heap = H → s.WarmedH U.vm → X U) (hK : va_K D vwCl (tyE cy) s) (hP : va_P D vwCl (bsC ++ bsR).flatten H) (hD : va_D A (bsC ++ bsR).flatten) (hS : va_S A H0 H locs) (hA : ∀ q, H0.size ≤ q → A q) {b0 : va_W} (h0 : bsC[0]? = some b0) {ci : Nat} {fs : List Value} (h1 : b0[0]? = some (b, .inr (ci, fs))) {rC : vw_C} (hc : vwCl[ci]? = some rC) (hC : rC.1 = C)
    (hn : As.length = n) (hsize : ls.size = nL) (hst : st = As.reverse ++ .ref b :: rest) (hrm : (rest.map fun v => v.category).sum ≤ 8) (hdg : decode cc pc = .ok (.invokevirtual index, 3)) (hcl : cells + mc ≤ R.cells ∧ slots + ms ≤ R.slots)
    (kk : ∀ (r : Int32) (bs1 : List va_W) (H1 : Heap) (locs1 : List Loc), post r bs1 → H.size ≤ H1.size → (∀ q : Nat, q < H.size → ¬ va_A bsC.flatten H.size q → H1[q]? = H[q]?) → va_P D vwCl (bs1 ++ bsR).flatten H1 → va_D A (bs1 ++ bsR).flatten → va_S A H0 H1 locs1 → W p l e R s m args below meth c H1 locs1 (cells + mc) (slots + ms) Q (F0 m (pc + 3) ls (.int r :: rest))) : W p l e R s m args below meth c H locs cells slots Q (F0 m pc ls st) := by
  have hF := wl_freeB hD hS hA
  refine va_calli (va_runV S hM cw (wl_preVi hXb hXs hK hP hD h0 h1 hc hC) rfl hn hsize hst (lv_room (m := m) (pc := pc) (ls := ls) (rest := st) hrm) hdg hcl) hS (fun q _ h => hF q h) hF (fun r u t H1 locs1 ht hvm hw hB hz hk hS1 => ?_)
  obtain ⟨hB1, hB2⟩ := hB
  rw [ht] at hB1
  obtain ⟨g1, g2⟩ := wl_joinB hP hD hF hk hB1 hB2
  exact kk r u H1 locs1 hw hz hk g1 g2 hS1
theorem wl_iVl {post : Int64 → List va_W → Prop} (S : CallFix p m c cc nL s args Ts own) (hM : Met l y wsy rm (wl_ic D cy X bsC H.size (.ref b :: As)) (va_Ql post (wl_ib D bsC H.size) (va_A bsC.flatten H.size)) mc ms (va_A bsC.flatten H.size)) (cw : CallW R s args own C index y bytes maxL ret wsy rm mc ms n) (hXb : FrameBlind (fun _ U => X U)) (hXs : ∀ U : State, U.heap = H → s.WarmedH U.vm → X U) (hK : va_K D vwCl (tyE cy) s) (hP : va_P D vwCl (bsC ++ bsR).flatten H) (hD : va_D A (bsC ++ bsR).flatten) (hS : va_S A H0 H locs) (hA : ∀ q, H0.size ≤ q → A q) {b0 : va_W} (h0 : bsC[0]? = some b0) {ci : Nat} {fs : List Value} (h1 : b0[0]? = some (b, .inr (ci, fs))) {rC : vw_C} (hc : vwCl[ci]? = some rC) (hC : rC.1 = C)
    (hn : As.length = n) (hsize : ls.size = nL) (hst : st = As.reverse ++ .ref b :: rest) (hrm : (rest.map fun v => v.category).sum ≤ 8) (hdg : decode cc pc = .ok (.invokevirtual index, 3)) (hcl : cells + mc ≤ R.cells ∧ slots + ms ≤ R.slots)
    (kk : ∀ (r : Int64) (bs1 : List va_W) (H1 : Heap) (locs1 : List Loc), post r bs1 → H.size ≤ H1.size → (∀ q : Nat, q < H.size → ¬ va_A bsC.flatten H.size q → H1[q]? = H[q]?) → va_P D vwCl (bs1 ++ bsR).flatten H1 → va_D A (bs1 ++ bsR).flatten → va_S A H0 H1 locs1 → W p l e R s m args below meth c H1 locs1 (cells + mc) (slots + ms) Q (F0 m (pc + 3) ls (.long r :: rest))) : W p l e R s m args below meth c H locs cells slots Q (F0 m pc ls st) := by
  have hF := wl_freeB hD hS hA
  refine va_calll (va_runV S hM cw (wl_preVi hXb hXs hK hP hD h0 h1 hc hC) rfl hn hsize hst (lv_room (m := m) (pc := pc) (ls := ls) (rest := st) hrm) hdg hcl) hS (fun q _ h => hF q h) hF (fun r u t H1 locs1 ht hvm hw hB hz hk hS1 => ?_)
  obtain ⟨hB1, hB2⟩ := hB
  rw [ht] at hB1
  obtain ⟨g1, g2⟩ := wl_joinB hP hD hF hk hB1 hB2
  exact kk r u H1 locs1 hw hz hk g1 g2 hS1
theorem wl_iVd {post : UInt64 → List va_W → Prop} (S : CallFix p m c cc nL s args Ts own) (hM : Met l y wsy rm (wl_ic D cy X bsC H.size (.ref b :: As)) (va_Qd post (wl_ib D bsC H.size) (va_A bsC.flatten H.size)) mc ms (va_A bsC.flatten H.size)) (cw : CallW R s args own C index y bytes maxL ret wsy rm mc ms n) (hXb : FrameBlind (fun _ U => X U)) (hXs : ∀ U : State, U.heap = H → s.WarmedH U.vm → X U) (hK : va_K D vwCl (tyE cy) s) (hP : va_P D vwCl (bsC ++ bsR).flatten H) (hD : va_D A (bsC ++ bsR).flatten) (hS : va_S A H0 H locs) (hA : ∀ q, H0.size ≤ q → A q) {b0 : va_W} (h0 : bsC[0]? = some b0) {ci : Nat} {fs : List Value} (h1 : b0[0]? = some (b, .inr (ci, fs))) {rC : vw_C} (hc : vwCl[ci]? = some rC) (hC : rC.1 = C)
    (hn : As.length = n) (hsize : ls.size = nL) (hst : st = As.reverse ++ .ref b :: rest) (hrm : (rest.map fun v => v.category).sum ≤ 8) (hdg : decode cc pc = .ok (.invokevirtual index, 3)) (hcl : cells + mc ≤ R.cells ∧ slots + ms ≤ R.slots)
    (kk : ∀ (r : UInt64) (bs1 : List va_W) (H1 : Heap) (locs1 : List Loc), post r bs1 → H.size ≤ H1.size → (∀ q : Nat, q < H.size → ¬ va_A bsC.flatten H.size q → H1[q]? = H[q]?) → va_P D vwCl (bs1 ++ bsR).flatten H1 → va_D A (bs1 ++ bsR).flatten → va_S A H0 H1 locs1 → W p l e R s m args below meth c H1 locs1 (cells + mc) (slots + ms) Q (F0 m (pc + 3) ls (.double r :: rest))) : W p l e R s m args below meth c H locs cells slots Q (F0 m pc ls st) := by
  have hF := wl_freeB hD hS hA
  refine va_calld (va_runV S hM cw (wl_preVi hXb hXs hK hP hD h0 h1 hc hC) rfl hn hsize hst (lv_room (m := m) (pc := pc) (ls := ls) (rest := st) hrm) hdg hcl) hS (fun q _ h => hF q h) hF (fun r u t H1 locs1 ht hvm hw hB hz hk hS1 => ?_)
  obtain ⟨hB1, hB2⟩ := hB
  rw [ht] at hB1
  obtain ⟨g1, g2⟩ := wl_joinB hP hD hF hk hB1 hB2
  exact kk r u H1 locs1 hw hz hk g1 g2 hS1
theorem wl_iVv {post : List va_W → Prop} (S : CallFix p m c cc nL s args Ts own) (hM : Met l y wsy rm (wl_ic D cy X bsC H.size (.ref b :: As)) (va_Qv post (wl_ib D bsC H.size) (va_A bsC.flatten H.size)) mc ms (va_A bsC.flatten H.size)) (cw : CallW R s args own C index y bytes maxL ret wsy rm mc ms n) (hXb : FrameBlind (fun _ U => X U)) (hXs : ∀ U : State, U.heap = H → s.WarmedH U.vm → X U) (hK : va_K D vwCl (tyE cy) s) (hP : va_P D vwCl (bsC ++ bsR).flatten H) (hD : va_D A (bsC ++ bsR).flatten) (hS : va_S A H0 H locs) (hA : ∀ q, H0.size ≤ q → A q) {b0 : va_W} (h0 : bsC[0]? = some b0) {ci : Nat} {fs : List Value} (h1 : b0[0]? = some (b, .inr (ci, fs))) {rC : vw_C} (hc : vwCl[ci]? = some rC) (hC : rC.1 = C)
    (hn : As.length = n) (hsize : ls.size = nL) (hst : st = As.reverse ++ .ref b :: rest) (hrm : (rest.map fun v => v.category).sum ≤ 8) (hdg : decode cc pc = .ok (.invokevirtual index, 3)) (hcl : cells + mc ≤ R.cells ∧ slots + ms ≤ R.slots)
    (kk : ∀ (bs1 : List va_W) (H1 : Heap) (locs1 : List Loc), post bs1 → H.size ≤ H1.size → (∀ q : Nat, q < H.size → ¬ va_A bsC.flatten H.size q → H1[q]? = H[q]?) → va_P D vwCl (bs1 ++ bsR).flatten H1 → va_D A (bs1 ++ bsR).flatten → va_S A H0 H1 locs1 → W p l e R s m args below meth c H1 locs1 (cells + mc) (slots + ms) Q (F0 m (pc + 3) ls rest)) : W p l e R s m args below meth c H locs cells slots Q (F0 m pc ls st) := by
  have hF := wl_freeB hD hS hA
  refine va_callv (va_runV S hM cw (wl_preVi hXb hXs hK hP hD h0 h1 hc hC) rfl hn hsize hst (lv_room (m := m) (pc := pc) (ls := ls) (rest := st) hrm) hdg hcl) hS (fun q _ h => hF q h) hF (fun u t H1 locs1 ht hvm hw hB hz hk hS1 => ?_)
  obtain ⟨hB1, hB2⟩ := hB
  rw [ht] at hB1
  obtain ⟨g1, g2⟩ := wl_joinB hP hD hF hk hB1 hB2
  exact kk u H1 locs1 hw hz hk g1 g2 hS1
theorem wl_iSv {post : List va_W → Prop} (S : CallFix p m c cc nL s args Ts own) (hM : Met l y wsy rm (wl_ic D cy X bsC H.size As) (va_Qv post (wl_ib D bsC H.size) (va_A bsC.flatten H.size)) mc ms (va_A bsC.flatten H.size)) (cw : CallB R s args own index y bytes maxL ret wsy rm mc ms n ∧ (Cond.static y).before args s = true) (hXb : FrameBlind (fun _ U => X U)) (hXs : ∀ U : State, U.heap = H → s.WarmedH U.vm → X U) (hK : va_K D vwCl (tyE cy) s) (hP : va_P D vwCl (bsC ++ bsR).flatten H) (hD : va_D A (bsC ++ bsR).flatten) (hS : va_S A H0 H locs) (hA : ∀ q, H0.size ≤ q → A q)
    (hn : As.length = n) (hsize : ls.size = nL) (hst : st = As.reverse ++ rest) (hrm : (rest.map fun v => v.category).sum ≤ 8) (hdg : decode cc pc = .ok (.invokestatic index, 3)) (hcl : cells + mc ≤ R.cells ∧ slots + ms ≤ R.slots)
    (kk : ∀ (bs1 : List va_W) (H1 : Heap) (locs1 : List Loc), post bs1 → H.size ≤ H1.size → (∀ q : Nat, q < H.size → ¬ va_A bsC.flatten H.size q → H1[q]? = H[q]?) → va_P D vwCl (bs1 ++ bsR).flatten H1 → va_D A (bs1 ++ bsR).flatten → va_S A H0 H1 locs1 → W p l e R s m args below meth c H1 locs1 (cells + mc) (slots + ms) Q (F0 m (pc + 3) ls rest)) : W p l e R s m args below meth c H locs cells slots Q (F0 m pc ls st) := by
  have hF := wl_freeB hD hS hA
  refine va_callv (va_runS S hM cw (wl_preSi hXb hXs hK hP hD) rfl hn hsize hst (lv_room (m := m) (pc := pc) (ls := ls) (rest := st) hrm) hdg hcl) hS (fun q _ h => hF q h) hF (fun u t H1 locs1 ht hvm hw hB hz hk hS1 => ?_)
  obtain ⟨hB1, hB2⟩ := hB
  rw [ht] at hB1
  obtain ⟨g1, g2⟩ := wl_joinB hP hD hF hk hB1 hB2
  exact kk u H1 locs1 hw hz hk g1 g2 hS1
theorem wl_iI {post : List va_W → Prop} (S : CallFix p m c cc nL s args Ts own) (hM : Met l y wsy rm (wl_ic D cy X bsC H.size (.ref b :: As)) (va_Qv post (wl_ib D bsC H.size) (va_A bsC.flatten H.size)) mc ms (va_A bsC.flatten H.size)) (cw : CallB R s args own index y bytes maxL none wsy rm mc ms n ∧ y.name = "<init>" ∧ (Cond.instanceMethod y).before args s = true) (hXb : FrameBlind (fun _ U => X U)) (hXs : ∀ U : State, U.heap = H → s.WarmedH U.vm → X U) (hK : va_K D vwCl (tyE cy) s) (hP : va_P D vwCl (bsC ++ bsR).flatten H) (hD : va_D A (bsC ++ bsR).flatten) (hS : va_S A H0 H locs) (hA : ∀ q, H0.size ≤ q → A q)
    (hn : As.length = n) (hsize : ls.size = nL) (hst : st = As.reverse ++ .ref b :: rest) (hrm : (rest.map fun v => v.category).sum ≤ 8) (hdg : decode cc pc = .ok (.invokespecial index, 3)) (hcl : cells + mc ≤ R.cells ∧ slots + ms ≤ R.slots)
    (kk : ∀ (bs1 : List va_W) (H1 : Heap) (locs1 : List Loc), post bs1 → H.size ≤ H1.size → (∀ q : Nat, q < H.size → ¬ va_A bsC.flatten H.size q → H1[q]? = H[q]?) → va_P D vwCl (bs1 ++ bsR).flatten H1 → va_D A (bs1 ++ bsR).flatten → va_S A H0 H1 locs1 → W p l e R s m args below meth c H1 locs1 (cells + mc) (slots + ms) Q (F0 m (pc + 3) ls rest)) : W p l e R s m args below meth c H locs cells slots Q (F0 m pc ls st) := by
  have hF := wl_freeB hD hS hA
  refine va_callv (va_runI S hM cw (wl_preSi hXb hXs hK hP hD) rfl hn hsize hst (lv_room (m := m) (pc := pc) (ls := ls) (rest := st) hrm) hdg hcl) hS (fun q _ h => hF q h) hF (fun u t H1 locs1 ht hvm hw hB hz hk hS1 => ?_)
  obtain ⟨hB1, hB2⟩ := hB
  rw [ht] at hB1
  obtain ⟨g1, g2⟩ := wl_joinB hP hD hF hk hB1 hB2
  exact kk u H1 locs1 hw hz hk g1 g2 hS1
theorem wl_iIN {host : String} {post : List va_W → Prop} (S : CallFix p m c cc nL s args Ts own) (hM : Met l y wsy rm (wl_ic D cy X bsC H.size (.ref b :: As)) (va_Qv post (wl_ib D bsC H.size) (va_A bsC.flatten H.size)) mc ms (va_A bsC.flatten H.size)) (cw : va_CN R s args own index y host bytes maxL none wsy rm mc ms n ∧ y.name = "<init>" ∧ (Cond.instanceMethod y).before args s = true) (hXb : FrameBlind (fun _ U => X U)) (hXs : ∀ U : State, U.heap = H → s.WarmedH U.vm → X U) (hK : va_K D vwCl (tyE cy) s) (hP : va_P D vwCl (bsC ++ bsR).flatten H) (hD : va_D A (bsC ++ bsR).flatten) (hS : va_S A H0 H locs) (hA : ∀ q, H0.size ≤ q → A q)
    (hn : As.length = n) (hsize : ls.size = nL) (hst : st = As.reverse ++ .ref b :: rest) (hrm : (rest.map fun v => v.category).sum ≤ 8) (hdg : decode cc pc = .ok (.invokespecial index, 3)) (hcl : cells + mc ≤ R.cells ∧ slots + ms ≤ R.slots)
    (kk : ∀ (bs1 : List va_W) (H1 : Heap) (locs1 : List Loc), post bs1 → H.size ≤ H1.size → (∀ q : Nat, q < H.size → ¬ va_A bsC.flatten H.size q → H1[q]? = H[q]?) → va_P D vwCl (bs1 ++ bsR).flatten H1 → va_D A (bs1 ++ bsR).flatten → va_S A H0 H1 locs1 → W p l e R s m args below meth c H1 locs1 (cells + mc) (slots + ms) Q (F0 m (pc + 3) ls rest)) : W p l e R s m args below meth c H locs cells slots Q (F0 m pc ls st) := by
  have hF := wl_freeB hD hS hA
  refine va_callv (va_runIN S hM cw (wl_preSi hXb hXs hK hP hD) rfl hn hsize hst (lv_room (m := m) (pc := pc) (ls := ls) (rest := st) hrm) hdg hcl) hS (fun q _ h => hF q h) hF (fun u t H1 locs1 ht hvm hw hB hz hk hS1 => ?_)
  obtain ⟨hB1, hB2⟩ := hB
  rw [ht] at hB1
  obtain ⟨g1, g2⟩ := wl_joinB hP hD hF hk hB1 hB2
  exact kk u H1 locs1 hw hz hk g1 g2 hS1
end WC
