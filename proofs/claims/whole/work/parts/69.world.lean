/-! OWN LIBRARY 8: a contract in a wider world; calls of what catches -/
theorem wl_Asub {w1 w2 : va_W} {sz : Nat} (h : ∀ x ∈ w1, x ∈ w2) : ∀ q, va_A w1 sz q → va_A w2 sz q := by
  intro q hq
  rcases wl_Amem.mp hq with ⟨x, hx, e⟩ | hq
  · exact wl_Amem.mpr (Or.inl ⟨x, h x hx, e⟩)
  · exact wl_Amem.mpr (Or.inr hq)
theorem wl_frP {D : va_G} {cy : Nat → ClassId} {X Y : State → Prop} {wC wR ws : va_W} {sz : Nat} {av : List Value} {args : Array Value} {s : State} {bsC bs : List va_W} (eC : bsC.flatten = wC) (eS : bs.flatten = ws) (hp : (wC ++ wR).Perm ws) (hX : ∀ U, Y U → X U) (h : wl_ic D cy Y bs sz av args s) : wl_ic D cy X bsC sz av args s := by
  subst eC eS
  obtain ⟨h1, h2, h3, h4, h5, h6⟩ := h
  exact ⟨h1, h2, wl_P.mpr fun q hq => wl_P.mp h3 q (hp.subset (List.mem_append_left _ hq)), h4, wl_Dl (wl_Dp hp.symm h5), hX _ h6⟩
theorem wl_frQ {D : va_G} {cy : Nat → ClassId} {Y : State → Prop} {wC wR ws w1 w2 : va_W} {sz : Nat} {av : List Value} {args : Array Value} {s t : State} {bsC bs bs1 bs2 : List va_W} (eC : bsC.flatten = wC) (eS : bs.flatten = ws) (e1 : bs1.flatten = w1) (e2 : bs2.flatten = w2) (hp : (wC ++ wR).Perm ws) (hp2 : (w1 ++ wR).Perm w2) (h : wl_ic D cy Y bs sz av args s) (hB : wl_ib D bsC sz bs1 t) (hF : va_F (va_A bsC.flatten sz) s t) : wl_ib D bs sz bs2 t ∧ va_F (va_A bs.flatten sz) s t := by
  subst eC eS e1 e2
  obtain ⟨h1, rfl, h3, h4, h5, h6⟩ := h
  obtain ⟨b1, b2⟩ := hB
  have hs : ∀ q, va_A bsC.flatten s.heap.size q → va_A bs.flatten s.heap.size q := wl_Asub (fun x hx => hp.subset (List.mem_append_left _ hx))
  obtain ⟨j1, j2⟩ := wl_join (A0 := va_A bs.flatten s.heap.size) (w2 := wR) (wl_Pp hp.symm h3) (wl_Dp hp.symm h5.self) hs hF.2 b1 b2
  exact ⟨⟨wl_Pp hp2 j1, wl_Dp hp2 j2⟩, hF.1, fun q hq hn => hF.2 q hq (fun z => hn (hs q z))⟩
section FR
variable {l : Launch} {y : MethodName} {ws : List Cond} {rm : Room} {D : va_G} {cy : Nat → ClassId} {X Y : State → Prop} {bsC bsR bs : List va_W} {sz : Nat} {av : List Value} {mc ms : Nat}
theorem wl_fr {post post2 : Int32 → List va_W → Prop} (h : Met l y ws rm (wl_ic D cy X bsC sz av) (va_Qi post (wl_ib D bsC sz) (va_A bsC.flatten sz)) mc ms (va_A bsC.flatten sz)) (hp : (bsC.flatten ++ bsR.flatten).Perm bs.flatten) (hX : ∀ U, Y U → X U) (hpost : ∀ r u, post r u → ∃ u2, post2 r u2 ∧ (u.flatten ++ bsR.flatten).Perm u2.flatten) : Met l y ws rm (wl_ic D cy Y bs sz av) (va_Qi post2 (wl_ib D bs sz) (va_A bs.flatten sz)) mc ms (va_A bs.flatten sz) := by
  intro p e ha hc hk s m args below hf happ hP hK
  obtain ⟨n, o, h1, h2, h3, h4, L, h5, h6⟩ := h p e ha hc hk s m args below hf happ (wl_frP rfl rfl hp hX hP) hK
  obtain ⟨⟨r, u, ho, hr, hB⟩, hF⟩ := h4
  obtain ⟨u2, p1, p2⟩ := hpost r u hr
  obtain ⟨g1, g2⟩ := wl_frQ rfl rfl rfl rfl hp p2 hP hB hF
  exact ⟨n, o, h1, h2, h3, ⟨⟨r, u2, ho, p1, g1⟩, g2⟩, L, h5, fun q hq => wl_Asub (fun x hx => hp.subset (List.mem_append_left _ hx)) _ (h6 q hq)⟩
theorem wl_frl {post post2 : Int64 → List va_W → Prop} (h : Met l y ws rm (wl_ic D cy X bsC sz av) (va_Ql post (wl_ib D bsC sz) (va_A bsC.flatten sz)) mc ms (va_A bsC.flatten sz)) (hp : (bsC.flatten ++ bsR.flatten).Perm bs.flatten) (hX : ∀ U, Y U → X U) (hpost : ∀ r u, post r u → ∃ u2, post2 r u2 ∧ (u.flatten ++ bsR.flatten).Perm u2.flatten) : Met l y ws rm (wl_ic D cy Y bs sz av) (va_Ql post2 (wl_ib D bs sz) (va_A bs.flatten sz)) mc ms (va_A bs.flatten sz) := by
  intro p e ha hc hk s m args below hf happ hP hK
  obtain ⟨n, o, h1, h2, h3, h4, L, h5, h6⟩ := h p e ha hc hk s m args below hf happ (wl_frP rfl rfl hp hX hP) hK
  obtain ⟨⟨r, u, ho, hr, hB⟩, hF⟩ := h4
  obtain ⟨u2, p1, p2⟩ := hpost r u hr
  obtain ⟨g1, g2⟩ := wl_frQ rfl rfl rfl rfl hp p2 hP hB hF
  exact ⟨n, o, h1, h2, h3, ⟨⟨r, u2, ho, p1, g1⟩, g2⟩, L, h5, fun q hq => wl_Asub (fun x hx => hp.subset (List.mem_append_left _ hx)) _ (h6 q hq)⟩
/-- a reading contract in the whole world -/
theorem wl_frr {post : Int32 → Prop} (h : Met l y ws rm (wl_pc D cy bsC av) (vp_Si post) mc ms (fun _ => False)) (hp : (bsC.flatten ++ bsR.flatten).Perm bs.flatten) : Met l y ws rm (wl_ic D cy Y bs sz av) (va_Qi (fun r u => post r ∧ u = bs) (wl_ib D bs sz) (va_A bs.flatten sz)) mc ms (va_A bs.flatten sz) := by
  intro p e ha hc hk s m args below hf happ hP hK
  obtain ⟨a1, a2, a3, a4, a5, a6⟩ := hP
  obtain ⟨n, o, h1, h2, h3, h4, L, h5, h6⟩ := h p e ha hc hk s m args below hf happ ⟨a1, wl_P.mpr fun q hq => wl_P.mp a3 q (hp.subset (List.mem_append_left _ hq)), a4⟩ hK
  obtain ⟨r, ho, hr, ht⟩ := h4
  refine ⟨n, o, h1, h2, h3, ⟨⟨r, bs, ho, ⟨hr, rfl⟩, ?_, a5.self⟩, ?_, fun q _ _ => by rw [ht]⟩, L, h5, fun q hq => (h6 q hq).elim⟩
  · rw [ht]
    exact a3
  · rw [ht]
    exact Nat.le_refl _
theorem wl_frrd {post : UInt64 → Prop} (h : Met l y ws rm (wl_pc D cy bsC av) (vp_Sd post) mc ms (fun _ => False)) (hp : (bsC.flatten ++ bsR.flatten).Perm bs.flatten) : Met l y ws rm (wl_ic D cy Y bs sz av) (va_Qd (fun r u => post r ∧ u = bs) (wl_ib D bs sz) (va_A bs.flatten sz)) mc ms (va_A bs.flatten sz) := by
  intro p e ha hc hk s m args below hf happ hP hK
  obtain ⟨a1, a2, a3, a4, a5, a6⟩ := hP
  obtain ⟨n, o, h1, h2, h3, h4, L, h5, h6⟩ := h p e ha hc hk s m args below hf happ ⟨a1, wl_P.mpr fun q hq => wl_P.mp a3 q (hp.subset (List.mem_append_left _ hq)), a4⟩ hK
  obtain ⟨r, ho, hr, ht⟩ := h4
  refine ⟨n, o, h1, h2, h3, ⟨⟨r, bs, ho, ⟨hr, rfl⟩, ?_, a5.self⟩, ?_, fun q _ _ => by rw [ht]⟩, L, h5, fun q hq => (h6 q hq).elim⟩
  · rw [ht]
    exact a3
  · rw [ht]
    exact Nat.le_refl _
/-- the post, said otherwise -/
theorem wl_po {post post2 : Int32 → List va_W → Prop} (h : Met l y ws rm (wl_ic D cy X bs sz av) (va_Qi post (wl_ib D bs sz) (va_A bs.flatten sz)) mc ms (va_A bs.flatten sz)) (hpost : ∀ r u, post r u → post2 r u) : Met l y ws rm (wl_ic D cy X bs sz av) (va_Qi post2 (wl_ib D bs sz) (va_A bs.flatten sz)) mc ms (va_A bs.flatten sz) :=
  wl_conv h (fun _ _ h => h) (fun a s o t _ hq => by
    obtain ⟨⟨r, u, h1, h2, h3⟩, hF⟩ := hq
    exact ⟨⟨r, u, h1, hpost r u h2, h3⟩, hF⟩)
end FR
section WSW
variable {p : Program} {l : Launch} {e : Env} {R : Room} {s : State} {m : MethodId} {args : Array Value} {below : List Frame} {meth : Method} {c : Code} {H : Heap} {locs : List Loc} {cells slots : Nat} {Q : State → Prop}
variable {cc bytes : ByteArray} {pc nL maxL n index : Nat} {ls : Array Slot} {rest st As : List Value} {D : va_G} {cy : Nat → ClassId} {A : Nat → Prop} {bsC bsR : List va_W} {H0 : Heap}
variable {Ts wsy : List Cond} {own : String} {y : MethodName} {ret : Option FieldType} {rm : Room} {mc ms : Nat} {X : State → Prop} {hh : List (Nat × Nat × Nat × Nat)}
theorem wl_iSW {post : Int32 → List va_W → Prop} (S : CallFix p m c cc nL s args Ts own) (hM : Met l y wsy rm (wl_ic D cy X bsC H.size As) (va_Qi post (wl_ib D bsC H.size) (va_A bsC.flatten H.size)) mc ms (va_A bsC.flatten H.size)) (cw : vx_CSW R s args own index y bytes maxL ret hh wsy rm mc ms n) (hXb : FrameBlind (fun _ U => X U)) (hXs : ∀ U : State, U.heap = H → s.WarmedH U.vm → X U) (hK : va_K D vwCl (tyE cy) s) (hP : va_P D vwCl (bsC ++ bsR).flatten H) (hD : va_D A (bsC ++ bsR).flatten) (hS : va_S A H0 H locs) (hA : ∀ q, H0.size ≤ q → A q)
    (hn : As.length = n) (hsize : ls.size = nL) (hst : st = As.reverse ++ rest) (hrm : (rest.map fun v => v.category).sum ≤ 8) (hdg : decode cc pc = .ok (.invokestatic index, 3)) (hcl : cells + mc ≤ R.cells ∧ slots + ms ≤ R.slots)
    (kk : ∀ (r : Int32) (bs1 : List va_W) (H1 : Heap) (locs1 : List Loc), post r bs1 → H.size ≤ H1.size → (∀ q : Nat, q < H.size → ¬ va_A bsC.flatten H.size q → H1[q]? = H[q]?) → va_P D vwCl (bs1 ++ bsR).flatten H1 → va_D A (bs1 ++ bsR).flatten → va_S A H0 H1 locs1 → W p l e R s m args below meth c H1 locs1 (cells + mc) (slots + ms) Q (F0 m (pc + 3) ls (.int r :: rest))) : W p l e R s m args below meth c H locs cells slots Q (F0 m pc ls st) := by
  have hF := wl_freeB hD hS hA
  refine va_calli (vx_runSW S hM cw (wl_preSi hXb hXs hK hP hD) rfl hn hsize hst (lv_room (m := m) (pc := pc) (ls := ls) (rest := st) hrm) hdg hcl) hS (fun q _ h => hF q h) hF (fun r u t H1 locs1 ht hvm hw hB hz hk hS1 => ?_)
  obtain ⟨hB1, hB2⟩ := hB
  rw [ht] at hB1
  obtain ⟨g1, g2⟩ := wl_joinB hP hD hF hk hB1 hB2
  exact kk r u H1 locs1 hw hz hk g1 g2 hS1
end WSW
/-! THE WORLD OF THE LAW: the class's objects; how they stand to the reference -/
/-- saved objects, how many count, text, journey, state, slots, the law's own row -/
abbrev q_S : Type := HsL × Nat × (Nat → Nat → Int32) × (Nat → Nat → Int32) × (Nat → Nat → Int32) × (Nat → Option ((Nat → Nat) × (Nat → Nat → Int32))) × (Nat → Int64)
def slW (cy : Nat → ClassId) : Option ((Nat → Nat) × (Nat → Nat → Int32)) → va_W
  | none => []
  | some y => stW cy y.1 y.2
def slF (sl : Nat → Option ((Nat → Nat) × (Nat → Nat → Int32))) : Nat → Option Nat := fun i => (sl i).map (fun y => y.1 0)
abbrev wXB (x : Nat) (sa ja ta : Nat → Nat) (h q : Nat) : va_W := [(x, .inr (4, [.ref (sa 0), .ref (ja 0), .ref (ta 0), .ref h, .ref q]))]
abbrev wHB (h g z : Nat) : va_W := [(h, .inr (0, [.ref g, .int (nI z)]))]
abbrev wGB (cy : Nat → ClassId) (g : Nat) (f : Nat → Option Nat) : va_W := [(g, .inl (cy 3, 6, (.inr (.inr (.inr (.inr f))))))]
abbrev wQB (cy : Nat → ClassId) (q : Nat) (f : Nat → Option Nat) : va_W := [(q, .inl (cy 3, 2, (.inr (.inr (.inr (.inr f))))))]
abbrev wOB (cy : Nat → ClassId) (o : Nat) (f9 : Nat → Int64) : va_W := [(o, .inl (cy 4, 1, (.inr (.inl f9))))]
def q_W (cy : Nat → ClassId) (x : Nat) (sa ja ta : Nat → Nat) (h g q o : Nat) (S : q_S) : List va_W := [wXB x sa ja ta h q, wHB h g S.2.1, wGB cy g (q_rf S.1), plW cy S.1, txW cy ta S.2.2.1, joW cy ja S.2.2.2.1, stW cy sa S.2.2.2.2.1, wQB cy q (slF S.2.2.2.2.2.1), slW cy (S.2.2.2.2.2.1 0), slW cy (S.2.2.2.2.2.1 1), wOB cy o S.2.2.2.2.2.2]
def q_V (V : List (Nat → Nat → Int32)) (u : Nat → Nat → Int32) : Prop := ∀ j y, V[j]? = some y → ∃ n, q_R n y (fun k => u 1 (170 * j + k))
def q_slR (s : Option ((Nat → Nat) × (Nat → Nat → Int32))) (i : Nat) (u : Nat → Nat → Int32) : Prop := (s = none ∧ u 3 i = 0) ∨ ∃ b y, s = some (b, y) ∧ u 3 i = 1 ∧ ∃ n, q_R n y (fun k => u 2 (170 * i + k))
def q_T (k : Nat) (t u : Nat → Nat → Int32) : Prop := k ≤ 60 ∧ t 1 0 = nI k ∧ u 6 1 = nI k ∧ ∀ y, y < k → t 0 y = u 4 y ∧ vp_nar .char (t 0 y) = t 0 y
def q_I (S : q_S) (u : Nat → Nat → Int32) : Prop := S.2.1 ≤ S.1.length ∧ S.1.length ≤ 6 ∧ u 6 0 = nI S.2.1 ∧ u 6 3 = -1 ∧ (∃ n, q_R n S.2.2.2.2.1 (u 0)) ∧ q_V ((S.1.take S.2.1).map Prod.snd) u ∧ (∀ i, i < 2 → q_slR (S.2.2.2.2.2.1 i) i u) ∧ ∃ k, q_T k S.2.2.1 u
section QI
variable {L L1 : HsL} {z z1 : Nat} {t t1 w w1 v v1 u u1 : Nat → Nat → Int32} {sl : Nat → Option ((Nat → Nat) × (Nat → Nat → Int32))} {f9 f8 : Nat → Int64}
theorem q_I_62 {c : Int32} (h : q_I (L, z, t, w, v, sl, f9) u) : q_I (L, z, t, w1, v, sl, f8) (su u 6 2 c) := h
theorem q_I_row (h : q_I (L, z, t, w, v, sl, f9) u) (h0 : ∃ n, q_R n v1 (u1 0)) (h1 : u1 1 = u 1) (h2 : u1 2 = u 2) (h3 : u1 3 = u 3) (h60 : u1 6 0 = u 6 0) (h63 : u1 6 3 = -1) (hT : ∃ k, q_T k t1 u1) : q_I (L, z, t1, w1, v1, sl, f8) u1 := by
  obtain ⟨a1, a2, a3, a4, a5, a6, a7, a8⟩ := h
  refine ⟨a1, a2, h60.trans a3, h63, h0, ?_, ?_, hT⟩
  · intro j y hj
    show ∃ n, q_R n y (fun k => u1 1 (170 * j + k))
    rw [h1]
    exact a6 j y hj
  · intro i hi
    show (sl i = none ∧ u1 3 i = 0) ∨ ∃ b y, sl i = some (b, y) ∧ u1 3 i = 1 ∧ ∃ n, q_R n y (fun k => u1 2 (170 * i + k))
    rw [h2, h3]
    exact a7 i hi
theorem q_V_push {V : List (Nat → Nat → Int32)} {b n : Nat} (hV : q_V V u) (hl : V.length = b) (hb : b ≤ 6) (hR : q_R n v (u 0)) (h1 : u1 1 = q_svr u b) : q_V (q_push V v) u1 := by
  intro j y hj
  rw [h1]
  unfold q_svr
  unfold q_push at hj
  by_cases e : b = 6
  · rw [if_pos e]
    rw [if_pos (by omega)] at hj
    have hjl : j < 6 := by
      have := (List.getElem?_eq_some_iff.mp hj).1
      simp at this
      omega
    by_cases e5 : j = 5
    · subst e5
      rw [List.getElem?_append_right (by simp; omega)] at hj
      have ey : y = v := by
        have h9 : 5 - V.tail.length = 0 := by simp; omega
        rw [h9] at hj
        simpa using hj.symm
      subst ey
      refine ⟨n, q_R_c hR (fun k hk => ?_)⟩
      unfold q_cp
      rw [if_pos (by omega), show 0 + (170 * 5 + k - 850) = k by omega]
    · rw [List.getElem?_append_left (by simp; omega)] at hj
      have hj2 : V[j + 1]? = some y := by
        rw [List.getElem?_tail] at hj
        exact hj
      obtain ⟨n2, hn2⟩ := hV (j + 1) y hj2
      refine ⟨n2, q_R_c hn2 (fun k hk => ?_)⟩
      unfold q_cp q_sl
      rw [if_neg (by omega), if_pos (by omega), show 170 * j + k + 170 = 170 * (j + 1) + k by omega]
  · rw [if_neg e]
    rw [if_neg (by omega)] at hj
    by_cases ej : j < b
    · rw [List.getElem?_append_left (by omega)] at hj
      obtain ⟨n2, hn2⟩ := hV j y hj
      refine ⟨n2, q_R_c hn2 (fun k hk => ?_)⟩
      unfold q_cp
      rw [if_neg (by omega)]
    · have hjl : j < b + 1 := by
        have := (List.getElem?_eq_some_iff.mp hj).1
        simp at this
        omega
      obtain rfl : j = b := by omega
      rw [List.getElem?_append_right (by omega)] at hj
      have ey : y = v := by
        have h9 : j - V.length = 0 := by omega
        rw [h9] at hj
        simpa using hj.symm
      subst ey
      refine ⟨n, q_R_c hR (fun k hk => ?_)⟩
      unfold q_cp
      rw [if_pos (by omega), show 0 + (170 * j + k - 170 * j) = k by omega]
theorem q_push_len {V : List (Nat → Nat → Int32)} {b : Nat} (hl : V.length = b) (hb : b ≤ 6) : (q_push V v).length = if b = 6 then 6 else b + 1 := by
  unfold q_push
  by_cases e : b = 6
  · rw [if_pos e, if_pos (by omega)]
    simp
    omega
  · rw [if_neg e, if_neg (by omega)]
    simp
    omega
theorem q_take_len (h : z ≤ L.length) : ((L.take z).map Prod.snd).length = z := by
  simp
  omega
theorem q_I_push (h : q_I (L, z, t, w, v, sl, f9) u) (hz1 : z1 ≤ L1.length) (hL1 : L1.length ≤ 6) (hp : (L1.take z1).map Prod.snd = q_push ((L.take z).map Prod.snd) v) (h0 : ∃ n, q_R n v1 (u1 0)) (h1 : u1 1 = q_svr u z) (h2 : u1 2 = u 2) (h3 : u1 3 = u 3) (h60 : u1 6 0 = nI (if z = 6 then 6 else z + 1)) (h63 : u1 6 3 = -1) (hT : ∃ k, q_T k t1 u1) : q_I (L1, z1, t1, w1, v1, sl, f8) u1 := by
  obtain ⟨a1, a2, a3, a4, a5, a6, a7, a8⟩ := h
  have a1 : z ≤ L.length := a1
  have a2 : L.length ≤ 6 := a2
  have ez : z1 = if z = 6 then 6 else z + 1 := by
    have e1 := q_take_len hz1
    rw [hp, q_push_len (q_take_len a1) (by omega)] at e1
    exact e1.symm
  obtain ⟨n, hn⟩ := a5
  refine ⟨hz1, hL1, by rw [h60, ← ez], h63, h0, ?_, ?_, hT⟩
  · show q_V ((L1.take z1).map Prod.snd) u1
    rw [hp]
    exact q_V_push a6 (q_take_len a1) (by omega) hn h1
  · intro i hi
    show (sl i = none ∧ u1 3 i = 0) ∨ ∃ b y, sl i = some (b, y) ∧ u1 3 i = 1 ∧ ∃ n, q_R n y (fun k => u1 2 (170 * i + k))
    rw [h2, h3]
    exact a7 i hi
theorem q_T_c {k : Nat} (h : q_T k t u) (h61 : u1 6 1 = u 6 1) (h4 : u1 4 = u 4) : q_T k t u1 := ⟨h.1, h.2.1, h61.trans h.2.2.1, fun y hy => by rw [h4]; exact h.2.2.2 y hy⟩
end QI
