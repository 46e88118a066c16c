/-! ONE CALL: class and reference side by side -/
theorem wl_T9_n {A B : Nat → Prop} {U : State} (hAB : ∀ q, B q → A q) (h : wl_T9 A U) : wl_T9 B U := ⟨wl_T_mv (H := U.heap) (locs := []) h.1.1 h.1.2.1 (Vm.Alike.refl U.vm) rfl va_S.rf hAB h.1, h.2⟩
def q_Op (l : Launch) (D : va_G) (cy : Nat → ClassId) (x : Nat) (sa ja ta : Nat → Nat) (h g q o : Nat) (a : Nat → Nat) (As : List Value) (yL : MethodName) (wsL : List Cond) (yR : MethodName) (wsR : List Cond) (S : q_S) (u : Nat → Nat → Int32) : Prop :=
  ∃ (r0 b0 : Int32) (P : q_S → Prop) (PU : (Nat → Nat → Int32) → Prop) (rm rmR : Room), (rm.frames ≤ 9 ∧ rm.locals ≤ 300 ∧ rm.cells ≤ 8 ∧ rm.slots ≤ 176) ∧ (rmR.frames ≤ 9 ∧ rmR.locals ≤ 300 ∧ rmR.cells = 0 ∧ rmR.slots = 0) ∧
  (∀ sz : Nat, Met l yL wsL rm (wl_ic D cy (wl_T9 (va_A (q_W cy x sa ja ta h g q o S).flatten sz)) (q_W cy x sa ja ta h g q o S) sz (.ref x :: (As ++ [.ref o]))) (va_Qi (fun (r : Int32) (bs : List va_W) => ∃ S' : q_S, r = r0 ∧ bs = q_W cy x sa ja ta h g q o S' ∧ P S') (wl_ib D (q_W cy x sa ja ta h g q o S) sz) (va_A (q_W cy x sa ja ta h g q o S).flatten sz)) rm.cells rm.slots (va_A (q_W cy x sa ja ta h g q o S).flatten sz)) ∧
  (∀ sz : Nat, Met l yR wsR rmR (wl_ic D cy (fun _ => True) [moW cy a u] sz (.ref (a 0) :: As)) (va_Qi (fun (r : Int32) (bs : List va_W) => ∃ u', r = b0 ∧ bs = [moW cy a u'] ∧ PU u') (wl_ib D [moW cy a u] sz) (va_A ([moW cy a u] : List va_W).flatten sz)) 0 0 (va_A ([moW cy a u] : List va_W).flatten sz)) ∧
  ∀ (S' : q_S) (u' : Nat → Nat → Int32), P S' → PU u' → q_I S' u' ∧ u' 6 2 = r0 ∧ (r0 = 0 → S'.2.2.2.2.2.2 0 = b0.toInt64)
section MK
variable {l : Launch} {D : va_G} {cy : Nat → ClassId} {x : Nat} {sa ja ta : Nat → Nat} {h g q o : Nat} {a : Nat → Nat} {As : List Value} {yL yR : MethodName} {wsL wsR : List Cond} {S : q_S} {u : Nat → Nat → Int32} {rm rmR : Room} {mc ms : Nat}
theorem q_mk {postC postR : Int32 → List va_W → Prop} (r0 b0 : Int32) (P : q_S → Prop) (PU : (Nat → Nat → Int32) → Prop) (bsC bsR : List va_W)
    (hC : ∀ sz : Nat, Met l yL wsL rm (wl_ic D cy (wl_T9 (va_A bsC.flatten sz)) bsC sz (.ref x :: (As ++ [.ref o]))) (va_Qi postC (wl_ib D bsC sz) (va_A bsC.flatten sz)) mc ms (va_A bsC.flatten sz))
    (hp : (bsC ++ bsR).flatten.Perm (q_W cy x sa ja ta h g q o S).flatten)
    (hpC : ∀ r b, postC r b → ∃ S' : q_S, r = r0 ∧ P S' ∧ (b ++ bsR).flatten.Perm (q_W cy x sa ja ta h g q o S').flatten)
    (hR : ∀ sz : Nat, Met l yR wsR rmR (wl_ic D cy (fun _ => True) [moW cy a u] sz (.ref (a 0) :: As)) (va_Qi postR (wl_ib D [moW cy a u] sz) (va_A ([moW cy a u] : List va_W).flatten sz)) 0 0 (va_A ([moW cy a u] : List va_W).flatten sz))
    (hpR : ∀ r b, postR r b → ∃ u', r = b0 ∧ b = [moW cy a u'] ∧ PU u')
    (hfin : ∀ (S' : q_S) (u' : Nat → Nat → Int32), P S' → PU u' → q_I S' u' ∧ u' 6 2 = r0 ∧ (r0 = 0 → S'.2.2.2.2.2.2 0 = b0.toInt64))
    (hrm : rm.frames ≤ 9 ∧ rm.locals ≤ 300 ∧ rm.cells ≤ 8 ∧ rm.slots ≤ 176) (hrR : rmR.frames ≤ 9 ∧ rmR.locals ≤ 300 ∧ rmR.cells = 0 ∧ rmR.slots = 0) (hmc : rm.cells = mc) (hms : rm.slots = ms) : q_Op l D cy x sa ja ta h g q o a As yL wsL yR wsR S u := by
  subst hmc hms
  rw [List.flatten_append] at hp
  refine ⟨r0, b0, P, PU, rm, rmR, hrm, hrR, fun sz => ?_, fun sz => wl_po (hR sz) hpR, hfin⟩
  refine wl_fr (hC sz) hp (fun U hU => wl_T9_n (wl_Asub (fun y hy => hp.subset (List.mem_append_left _ hy))) hU) (fun r b hb => ?_)
  obtain ⟨S', e1, e2, e3⟩ := hpC r b hb
  rw [List.flatten_append] at e3
  exact ⟨_, ⟨S', e1, rfl, e2⟩, e3⟩
end MK
section MK2
variable {l : Launch} {D : va_G} {cy : Nat → ClassId} {x : Nat} {sa ja ta : Nat → Nat} {h g q o : Nat} {a : Nat → Nat} {As : List Value} {yL yR : MethodName} {wsL wsR : List Cond} {u : Nat → Nat → Int32} {rm rmR : Room} {mc ms : Nat}
variable {L : HsL} {z : Nat} {t w v : Nat → Nat → Int32} {sl : Nat → Option ((Nat → Nat) × (Nat → Nat → Int32))} {f9 : Nat → Int64}
/-- what throws -/
theorem q_mkB {c : Nat} {c0 : Int32} (hI : q_I (L, z, t, w, v, sl, f9) u) (hc : c0 = nI c) (hc0 : ¬ c0 = 0) (is : List Nat) (bsC bsR : List va_W)
    (hC : ∀ sz : Nat, Met l yL wsL rm (wl_ic D cy (wl_T9 (va_A bsC.flatten sz)) bsC sz (.ref x :: (As ++ [.ref o]))) (va_Qi (fun (r : Int32) (bs : List va_W) => r = c0 ∧ bs = bsC) (wl_ib D bsC sz) (va_A bsC.flatten sz)) mc ms (va_A bsC.flatten sz))
    (hR : ∀ sz : Nat, Met l yR wsR rmR (wl_ic D cy (fun _ => True) [moW cy a u] sz (.ref (a 0) :: As)) (va_Qi (fun (r : Int32) (bs : List va_W) => r = 0 ∧ bs = [moW cy a (su u 6 2 (nI c))]) (wl_ib D [moW cy a u] sz) (va_A ([moW cy a u] : List va_W).flatten sz)) 0 0 (va_A ([moW cy a u] : List va_W).flatten sz))
    (hl : (bsC ++ bsR).length = 11) (hp : is.Perm (List.range 11)) (hs : is.map (fun i => (bsC ++ bsR)[i]?) = (q_W cy x sa ja ta h g q o (L, z, t, w, v, sl, f9)).map some)
    (hrm : rm.frames ≤ 9 ∧ rm.locals ≤ 300 ∧ rm.cells ≤ 8 ∧ rm.slots ≤ 176) (hrR : rmR.frames ≤ 9 ∧ rmR.locals ≤ 300 ∧ rmR.cells = 0 ∧ rmR.slots = 0) (hmc : rm.cells = mc) (hms : rm.slots = ms) : q_Op l D cy x sa ja ta h g q o a As yL wsL yR wsR (L, z, t, w, v, sl, f9) u := by
  have hpp := (wl_perm is 11 hl hp hs).flatten
  refine q_mk c0 0 (fun S' => S' = (L, z, t, w, v, sl, f9)) (fun u' => u' = su u 6 2 (nI c)) bsC bsR hC hpp (fun r b hb => ?_) hR (fun r b hb => ⟨_, hb.1, hb.2, rfl⟩) (fun S' u' e1 e2 => ?_) hrm hrR hmc hms
  · obtain ⟨e1, e2⟩ := hb
    subst e2
    exact ⟨_, e1, rfl, hpp⟩
  · subst e1 e2
    exact ⟨hI, hc.symm, fun e => absurd e hc0⟩
/-- what looks -/
theorem q_mkR {ans : Int32} {w1 : Nat → Nat → Int32} {bsC1 : List va_W} {b0 : Int32} (hI : q_I (L, z, t, w, v, sl, f9) u) (hans : ans = b0) (is : List Nat) (bsC bsR : List va_W)
    (hC : ∀ sz : Nat, Met l yL wsL rm (wl_ic D cy (wl_T9 (va_A bsC.flatten sz)) bsC sz (.ref x :: (As ++ [.ref o]))) (va_Qi (fun (r : Int32) (bs : List va_W) => r = 0 ∧ bs = bsC1) (wl_ib D bsC sz) (va_A bsC.flatten sz)) mc ms (va_A bsC.flatten sz))
    (hR : ∀ sz : Nat, Met l yR wsR rmR (wl_ic D cy (fun _ => True) [moW cy a u] sz (.ref (a 0) :: As)) (va_Qi (fun (r : Int32) (bs : List va_W) => r = b0 ∧ bs = [moW cy a (su u 6 2 (nI 0))]) (wl_ib D [moW cy a u] sz) (va_A ([moW cy a u] : List va_W).flatten sz)) 0 0 (va_A ([moW cy a u] : List va_W).flatten sz))
    (hl : (bsC ++ bsR).length = 11) (hp : is.Perm (List.range 11)) (hs : is.map (fun i => (bsC ++ bsR)[i]?) = (q_W cy x sa ja ta h g q o (L, z, t, w, v, sl, f9)).map some)
    (hl1 : (bsC1 ++ bsR).length = 11) (hs1 : is.map (fun i => (bsC1 ++ bsR)[i]?) = (q_W cy x sa ja ta h g q o (L, z, t, w1, v, sl, vp_updL f9 0 ans.toInt64)).map some)
    (hrm : rm.frames ≤ 9 ∧ rm.locals ≤ 300 ∧ rm.cells ≤ 8 ∧ rm.slots ≤ 176) (hrR : rmR.frames ≤ 9 ∧ rmR.locals ≤ 300 ∧ rmR.cells = 0 ∧ rmR.slots = 0) (hmc : rm.cells = mc) (hms : rm.slots = ms) : q_Op l D cy x sa ja ta h g q o a As yL wsL yR wsR (L, z, t, w, v, sl, f9) u := by
  have hpp := (wl_perm is 11 hl hp hs).flatten
  have hpp1 := (wl_perm is 11 hl1 hp hs1).flatten
  refine q_mk 0 b0 (fun S' => S' = (L, z, t, w1, v, sl, vp_updL f9 0 ans.toInt64)) (fun u' => u' = su u 6 2 (nI 0)) bsC bsR hC hpp (fun r b hb => ?_) hR (fun r b hb => ⟨_, hb.1, hb.2, rfl⟩) (fun S' u' e1 e2 => ?_) hrm hrR hmc hms
  · obtain ⟨e1, e2⟩ := hb
    subst e2
    exact ⟨_, e1, rfl, hpp1⟩
  · subst e1 e2
    refine ⟨hI, rfl, fun _ => ?_⟩
    rw [← hans]
    rfl
/-- what saves the state, and changes it -/
theorem q_mkP {ans b0 : Int32} {v1 u1 t1 w1 : Nat → Nat → Int32} (hI : q_I (L, z, t, w, v, sl, f9) u) (hans : ans = b0) (is : List Nat) (bsC bsR : List va_W) (bsC1 : HsL → Nat → List va_W)
    (hC : ∀ sz : Nat, Met l yL wsL rm (wl_ic D cy (wl_T9 (va_A bsC.flatten sz)) bsC sz (.ref x :: (As ++ [.ref o]))) (va_Qi (fun (r : Int32) (bs : List va_W) => ∃ (L1 : HsL) (z1 : Nat), r = 0 ∧ bs = bsC1 L1 z1 ∧ z1 ≤ L1.length ∧ L1.length ≤ 6 ∧ (L1.take z1).map Prod.snd = q_push ((L.take z).map Prod.snd) v) (wl_ib D bsC sz) (va_A bsC.flatten sz)) mc ms (va_A bsC.flatten sz))
    (hR : ∀ sz : Nat, Met l yR wsR rmR (wl_ic D cy (fun _ => True) [moW cy a u] sz (.ref (a 0) :: As)) (va_Qi (fun (r : Int32) (bs : List va_W) => r = b0 ∧ bs = [moW cy a u1]) (wl_ib D [moW cy a u] sz) (va_A ([moW cy a u] : List va_W).flatten sz)) 0 0 (va_A ([moW cy a u] : List va_W).flatten sz))
    (hpp : (bsC ++ bsR).flatten.Perm (q_W cy x sa ja ta h g q o (L, z, t, w, v, sl, f9)).flatten)
    (hpp1 : ∀ L1 z1, (bsC1 L1 z1 ++ bsR).flatten.Perm (q_W cy x sa ja ta h g q o (L1, z1, t1, w1, v1, sl, vp_updL f9 0 ans.toInt64)).flatten)
    (h0 : ∃ n, q_R n v1 (u1 0)) (h1 : u1 1 = q_svr u z) (h2 : u1 2 = u 2) (h3 : u1 3 = u 3) (h60 : u1 6 0 = nI (if z = 6 then 6 else z + 1)) (h62 : u1 6 2 = 0) (h63 : u1 6 3 = u 6 3) (hT : ∃ k, q_T k t1 u1)
    (hrm : rm.frames ≤ 9 ∧ rm.locals ≤ 300 ∧ rm.cells ≤ 8 ∧ rm.slots ≤ 176) (hrR : rmR.frames ≤ 9 ∧ rmR.locals ≤ 300 ∧ rmR.cells = 0 ∧ rmR.slots = 0) (hmc : rm.cells = mc) (hms : rm.slots = ms) : q_Op l D cy x sa ja ta h g q o a As yL wsL yR wsR (L, z, t, w, v, sl, f9) u := by
  refine q_mk 0 b0 (fun S' => ∃ L1 z1, S' = (L1, z1, t1, w1, v1, sl, vp_updL f9 0 ans.toInt64) ∧ z1 ≤ L1.length ∧ L1.length ≤ 6 ∧ (L1.take z1).map Prod.snd = q_push ((L.take z).map Prod.snd) v) (fun u' => u' = u1) bsC bsR hC hpp (fun r b hb => ?_) hR (fun r b hb => ⟨_, hb.1, hb.2, rfl⟩) (fun S' u' e1 e2 => ?_) hrm hrR hmc hms
  · obtain ⟨L1, z1, e1, e2, f1, f2, f3⟩ := hb
    subst e2
    exact ⟨_, e1, ⟨L1, z1, rfl, f1, f2, f3⟩, hpp1 L1 z1⟩
  · obtain ⟨L1, z1, rfl, f1, f2, f3⟩ := e1
    subst e2
    refine ⟨q_I_push hI f1 f2 f3 h0 h1 h2 h3 h60 (h63.trans hI.2.2.2.1) hT, h62, fun _ => ?_⟩
    rw [← hans]
    rfl
end MK2
/-! arguments in a range, or not -/
theorem q_rng (y : Int32) {A B : Int32} (lo hi : Nat) (hA : A = nI lo) (hB : B = nI hi) (h1 : lo < 2 ^ 31) (h2 : hi < 2 ^ 31) : (¬ (¬ y < A ∧ ¬ B < y)) ∨ ∃ j : Nat, lo ≤ j ∧ j ≤ hi ∧ y = nI j := by
  by_cases c1 : y < A
  · exact Or.inl (fun q => q.1 c1)
  · by_cases c2 : B < y
    · exact Or.inl (fun q => q.2 c2)
    · right
      subst hA hB
      rw [Int32.lt_iff_toInt_lt, nI_toInt h1] at c1
      rw [Int32.lt_iff_toInt_lt, nI_toInt h2] at c2
      refine ⟨y.toInt.toNat, by omega, by omega, Int32.toInt_inj.mp ?_⟩
      rw [nI_toInt (by omega)]
      omega
theorem q_up {y A B C : Int32} (n : Nat) (hB : B = nI n) (hC : C = nI (n + 1)) (hn : n + 1 < 2 ^ 31) (h : ¬ (¬ y < A ∧ ¬ B < y)) : ¬ (¬ y < A ∧ ¬ C ≤ y) := by
  intro q
  refine h ⟨q.1, fun z => q.2 ?_⟩
  subst hB hC
  rw [Int32.lt_iff_toInt_lt, nI_toInt (by omega)] at z
  rw [Int32.le_iff_toInt_le, nI_toInt (by omega)]
  omega
