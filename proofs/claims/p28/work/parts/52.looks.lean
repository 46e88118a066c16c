/-! p28: the class's looks, one by one; undo among all saved states -/
abbrev wXB (x : Nat) (sa ja ta : Nat → Nat) (h q : Nat) : va_W := [(x, .inr (4, [.ref (sa 0), .ref (ja 0), .ref (ta 0), .ref h, .ref q]))]
abbrev wHB (h g z : Nat) : va_W := [(h, .inr (0, [.ref g, .int (nI z)]))]
abbrev wGB (cy : Nat → ClassId) (g : Nat) (f : Nat → Option Nat) : va_W := [(g, .inl (cy 3, 6, (.inr (.inr (.inr (.inr f))))))]
def slW (cy : Nat → ClassId) : Option ((Nat → Nat) × (Nat → Nat → Int32)) → va_W
  | none => []
  | some y => stW cy y.1 y.2
theorem wl_pri {l : Launch} {y : MethodName} {ws : List Cond} {rm : Room} {Pc : Array Value → State → Prop} {post post2 : Int32 → Prop} {mc ms : Nat} {free : Addr → Prop} (h : Met l y ws rm Pc (vp_Si post) mc ms free) (hp : ∀ r, post r → post2 r) : Met l y ws rm Pc (vp_Si post2) mc ms free :=
  wl_conv h (fun _ _ h => h) (fun a s o t _ hq => by
    obtain ⟨r, h1, h2, h3⟩ := hq
    exact ⟨r, h1, hp r h2, h3⟩)
theorem wl_pol {l : Launch} {y : MethodName} {ws : List Cond} {rm : Room} {D : va_G} {cy : Nat → ClassId} {X : State → Prop} {bs : List va_W} {sz : Nat} {av : List Value} {mc ms : Nat} {post post2 : Int64 → List va_W → Prop} (h : Met l y ws rm (wl_ic D cy X bs sz av) (va_Ql post (wl_ib D bs sz) (va_A bs.flatten sz)) mc ms (va_A bs.flatten sz)) (hpost : ∀ r u, post r u → post2 r u) : Met l y ws rm (wl_ic D cy X bs sz av) (va_Ql post2 (wl_ib D bs sz) (va_A bs.flatten sz)) mc ms (va_A bs.flatten sz) :=
  wl_conv h (fun _ _ h => h) (fun a s o t _ hq => by
    obtain ⟨⟨r, u, h1, h2, h3⟩, hF⟩ := hq
    exact ⟨⟨r, u, h1, hpost r u h2, h3⟩, hF⟩)
theorem wl_Asub {w1 w2 : va_W} {sz : Nat} (h : ∀ x ∈ w1, x ∈ w2) : ∀ q, va_A w1 sz q → va_A w2 sz q := by
  intro q hq
  rcases wl_Amem.mp hq with ⟨x, hx, e⟩ | hq
  · exact wl_Amem.mpr (Or.inl ⟨x, h x hx, e⟩)
  · exact wl_Amem.mpr (Or.inr hq)
theorem wl_frP {D : va_G} {cy : Nat → ClassId} {X Y : State → Prop} {wC wR ws : va_W} {sz : Nat} {av : List Value} {args : Array Value} {s : State} {bsC bs : List va_W} (eC : bsC.flatten = wC) (eS : bs.flatten = ws) (hp : (wC ++ wR).Perm ws) (hX : ∀ U, Y U → X U) (h : wl_ic D cy Y bs sz av args s) : wl_ic D cy X bsC sz av args s := by
  subst eC eS
  obtain ⟨h1, h2, h3, h4, h5, h6⟩ := h
  exact ⟨h1, h2, wl_P.mpr fun q hq => wl_P.mp h3 q (hp.subset (List.mem_append_left _ hq)), h4, wl_Dl (wl_Dp hp.symm h5), hX _ h6⟩
theorem wl_frQ {D : va_G} {cy : Nat → ClassId} {Y : State → Prop} {wC wR ws w1 w2 : va_W} {sz : Nat} {av : List Value} {args : Array Value} {s t : State} {bsC bs bs1 bs2 : List va_W} (eC : bsC.flatten = wC) (eS : bs.flatten = ws) (e1 : bs1.flatten = w1) (e2 : bs2.flatten = w2) (hp : (wC ++ wR).Perm ws) (hp2 : (w1 ++ wR).Perm w2) (h : wl_ic D cy Y bs sz av args s) (hB : wl_ib D bsC sz bs1 t) (hF : va_F (va_A bsC.flatten sz) s t) : wl_ib D bs sz bs2 t ∧ va_F (va_A bs.flatten sz) s t := by
  subst eC eS e1 e2
  obtain ⟨h1, rfl, h3, h4, h5, h6⟩ := h
  obtain ⟨b1, b2⟩ := hB
  have hs : ∀ q, va_A bsC.flatten s.heap.size q → va_A bs.flatten s.heap.size q := wl_Asub (fun x hx => hp.subset (List.mem_append_left _ hx))
  obtain ⟨j1, j2⟩ := wl_join (A0 := va_A bs.flatten s.heap.size) (w2 := wR) (wl_Pp hp.symm h3) (wl_Dp hp.symm h5.self) hs hF.2 b1 b2
  exact ⟨⟨wl_Pp hp2 j1, wl_Dp hp2 j2⟩, hF.1, fun q hq hn => hF.2 q hq (fun z => hn (hs q z))⟩
section FR
variable {l : Launch} {y : MethodName} {ws : List Cond} {rm : Room} {D : va_G} {cy : Nat → ClassId} {X Y : State → Prop} {bsC bsR bs : List va_W} {sz : Nat} {av : List Value} {mc ms : Nat}
theorem wl_fr {post post2 : Int32 → List va_W → Prop} (h : Met l y ws rm (wl_ic D cy X bsC sz av) (va_Qi post (wl_ib D bsC sz) (va_A bsC.flatten sz)) mc ms (va_A bsC.flatten sz)) (hp : (bsC.flatten ++ bsR.flatten).Perm bs.flatten) (hX : ∀ U, Y U → X U) (hpost : ∀ r u, post r u → ∃ u2, post2 r u2 ∧ (u.flatten ++ bsR.flatten).Perm u2.flatten) : Met l y ws rm (wl_ic D cy Y bs sz av) (va_Qi post2 (wl_ib D bs sz) (va_A bs.flatten sz)) mc ms (va_A bs.flatten sz) := by
  intro p e ha hc hk s m args below hf happ hP hK
  obtain ⟨n, o, h1, h2, h3, h4, L, h5, h6⟩ := h p e ha hc hk s m args below hf happ (wl_frP rfl rfl hp hX hP) hK
  obtain ⟨⟨r, u, ho, hr, hB⟩, hF⟩ := h4
  obtain ⟨u2, p1, p2⟩ := hpost r u hr
  obtain ⟨g1, g2⟩ := wl_frQ rfl rfl rfl rfl hp p2 hP hB hF
  exact ⟨n, o, h1, h2, h3, ⟨⟨r, u2, ho, p1, g1⟩, g2⟩, L, h5, fun q hq => wl_Asub (fun x hx => hp.subset (List.mem_append_left _ hx)) _ (h6 q hq)⟩
/-- the post, said otherwise -/
theorem wl_po {post post2 : Int32 → List va_W → Prop} (h : Met l y ws rm (wl_ic D cy X bs sz av) (va_Qi post (wl_ib D bs sz) (va_A bs.flatten sz)) mc ms (va_A bs.flatten sz)) (hpost : ∀ r u, post r u → post2 r u) : Met l y ws rm (wl_ic D cy X bs sz av) (va_Qi post2 (wl_ib D bs sz) (va_A bs.flatten sz)) mc ms (va_A bs.flatten sz) :=
  wl_conv h (fun _ _ h => h) (fun a s o t _ hq => by
    obtain ⟨⟨r, u, h1, h2, h3⟩, hF⟩ := hq
    exact ⟨⟨r, u, h1, hpost r u h2, h3⟩, hF⟩)
end FR

set_option maxHeartbeats 4000000 in
theorem m_X4_cnt0n (l : Launch) (D : va_G) (cy : Nat → ClassId) (x : Nat) (sa ja ta : Nat → Nat) (h q : Nat) (v : Nat → Nat → Int32) (z : Nat) (g : Nat) (n : Nat) (hn : v 7 0 = nI n) : Met l yX4_count wsX4_count ({ frames := 3, cells := 0, slots := 0, locals := 68 } : Room) (wl_pc D cy [([(x, .inr (4, [.ref (sa 0), .ref (ja 0), .ref (ta 0), .ref h, .ref q]))] : va_W), stW cy sa v, ([(h, .inr (0, [.ref g, .int (nI z)]))] : va_W)] [.ref x, .int (nI 0)]) (vp_Si (fun r : Int32 => r = nI n)) 0 0 (fun _ => False) := by
  exact wl_pri (m_X4_count l D cy x sa ja ta h q v z 0 g (by decide)) (fun r hr => hr.trans hn)
set_option maxHeartbeats 4000000 in
theorem m_X4_cnt0 (l : Launch) (D : va_G) (cy : Nat → ClassId) (x : Nat) (sa ja ta : Nat → Nat) (h q : Nat) (v : Nat → Nat → Int32) (z : Nat) (g : Nat)  : Met l yX4_count wsX4_count ({ frames := 3, cells := 0, slots := 0, locals := 68 } : Room) (wl_pc D cy [([(x, .inr (4, [.ref (sa 0), .ref (ja 0), .ref (ta 0), .ref h, .ref q]))] : va_W), stW cy sa v, ([(h, .inr (0, [.ref g, .int (nI z)]))] : va_W)] [.ref x, .int (nI 0)]) (vp_Si (fun r : Int32 => r = v 7 0)) 0 0 (fun _ => False) := by
  exact wl_pri (m_X4_count l D cy x sa ja ta h q v z 0 g (by decide)) (fun r hr => hr.trans rfl)
set_option maxHeartbeats 4000000 in
theorem m_X4_cnt1 (l : Launch) (D : va_G) (cy : Nat → ClassId) (x : Nat) (sa ja ta : Nat → Nat) (h q : Nat) (v : Nat → Nat → Int32) (z : Nat) (g : Nat)  : Met l yX4_count wsX4_count ({ frames := 3, cells := 0, slots := 0, locals := 68 } : Room) (wl_pc D cy [([(x, .inr (4, [.ref (sa 0), .ref (ja 0), .ref (ta 0), .ref h, .ref q]))] : va_W), stW cy sa v, ([(h, .inr (0, [.ref g, .int (nI z)]))] : va_W)] [.ref x, .int (nI 1)]) (vp_Si (fun r : Int32 => r = v 7 1)) 0 0 (fun _ => False) := by
  exact wl_pri (m_X4_count l D cy x sa ja ta h q v z 1 g (by decide)) (fun r hr => hr.trans rfl)
set_option maxHeartbeats 4000000 in
theorem m_X4_cnt2 (l : Launch) (D : va_G) (cy : Nat → ClassId) (x : Nat) (sa ja ta : Nat → Nat) (h q : Nat) (v : Nat → Nat → Int32) (z : Nat) (g : Nat)  : Met l yX4_count wsX4_count ({ frames := 3, cells := 0, slots := 0, locals := 68 } : Room) (wl_pc D cy [([(x, .inr (4, [.ref (sa 0), .ref (ja 0), .ref (ta 0), .ref h, .ref q]))] : va_W), stW cy sa v, ([(h, .inr (0, [.ref g, .int (nI z)]))] : va_W)] [.ref x, .int (nI 2)]) (vp_Si (fun r : Int32 => r = v 7 2 + v 7 3 + v 7 4 + v 7 0)) 0 0 (fun _ => False) := by
  exact wl_pri (m_X4_count l D cy x sa ja ta h q v z 2 g (by decide)) (fun r hr => hr.trans rfl)
set_option maxHeartbeats 4000000 in
theorem m_X4_cnt3 (l : Launch) (D : va_G) (cy : Nat → ClassId) (x : Nat) (sa ja ta : Nat → Nat) (h q : Nat) (v : Nat → Nat → Int32) (z : Nat) (g : Nat)  : Met l yX4_count wsX4_count ({ frames := 3, cells := 0, slots := 0, locals := 68 } : Room) (wl_pc D cy [([(x, .inr (4, [.ref (sa 0), .ref (ja 0), .ref (ta 0), .ref h, .ref q]))] : va_W), stW cy sa v, ([(h, .inr (0, [.ref g, .int (nI z)]))] : va_W)] [.ref x, .int (nI 3)]) (vp_Si (fun r : Int32 => r = v 7 2)) 0 0 (fun _ => False) := by
  exact wl_pri (m_X4_count l D cy x sa ja ta h q v z 3 g (by decide)) (fun r hr => hr.trans rfl)
set_option maxHeartbeats 4000000 in
theorem m_X4_cnt4 (l : Launch) (D : va_G) (cy : Nat → ClassId) (x : Nat) (sa ja ta : Nat → Nat) (h q : Nat) (v : Nat → Nat → Int32) (z : Nat) (g : Nat)  : Met l yX4_count wsX4_count ({ frames := 3, cells := 0, slots := 0, locals := 68 } : Room) (wl_pc D cy [([(x, .inr (4, [.ref (sa 0), .ref (ja 0), .ref (ta 0), .ref h, .ref q]))] : va_W), stW cy sa v, ([(h, .inr (0, [.ref g, .int (nI z)]))] : va_W)] [.ref x, .int (nI 4)]) (vp_Si (fun r : Int32 => r = v 7 3)) 0 0 (fun _ => False) := by
  exact wl_pri (m_X4_count l D cy x sa ja ta h q v z 4 g (by decide)) (fun r hr => hr.trans rfl)
set_option maxHeartbeats 4000000 in
theorem m_X4_cnt5 (l : Launch) (D : va_G) (cy : Nat → ClassId) (x : Nat) (sa ja ta : Nat → Nat) (h q : Nat) (v : Nat → Nat → Int32) (z : Nat) (g : Nat)  : Met l yX4_count wsX4_count ({ frames := 3, cells := 0, slots := 0, locals := 68 } : Room) (wl_pc D cy [([(x, .inr (4, [.ref (sa 0), .ref (ja 0), .ref (ta 0), .ref h, .ref q]))] : va_W), stW cy sa v, ([(h, .inr (0, [.ref g, .int (nI z)]))] : va_W)] [.ref x, .int (nI 5)]) (vp_Si (fun r : Int32 => r = v 7 4)) 0 0 (fun _ => False) := by
  exact wl_pri (m_X4_count l D cy x sa ja ta h q v z 5 g (by decide)) (fun r hr => hr.trans rfl)
set_option maxHeartbeats 4000000 in
theorem m_X4_cnt6 (l : Launch) (D : va_G) (cy : Nat → ClassId) (x : Nat) (sa ja ta : Nat → Nat) (h q : Nat) (v : Nat → Nat → Int32) (z : Nat) (g : Nat)  : Met l yX4_count wsX4_count ({ frames := 3, cells := 0, slots := 0, locals := 68 } : Room) (wl_pc D cy [([(x, .inr (4, [.ref (sa 0), .ref (ja 0), .ref (ta 0), .ref h, .ref q]))] : va_W), stW cy sa v, ([(h, .inr (0, [.ref g, .int (nI z)]))] : va_W)] [.ref x, .int (nI 6)]) (vp_Si (fun r : Int32 => r = q_cw v)) 0 0 (fun _ => False) := by
  exact wl_pri (m_X4_count l D cy x sa ja ta h q v z 6 g (by decide)) (fun r hr => hr.trans rfl)
set_option maxHeartbeats 4000000 in
theorem m_X4_cnt7 (l : Launch) (D : va_G) (cy : Nat → ClassId) (x : Nat) (sa ja ta : Nat → Nat) (h q : Nat) (v : Nat → Nat → Int32) (z : Nat) (g : Nat)  : Met l yX4_count wsX4_count ({ frames := 3, cells := 0, slots := 0, locals := 68 } : Room) (wl_pc D cy [([(x, .inr (4, [.ref (sa 0), .ref (ja 0), .ref (ta 0), .ref h, .ref q]))] : va_W), stW cy sa v, ([(h, .inr (0, [.ref g, .int (nI z)]))] : va_W)] [.ref x, .int (nI 7)]) (vp_Si (fun r : Int32 => r = q_st v)) 0 0 (fun _ => False) := by
  exact wl_pri (m_X4_count l D cy x sa ja ta h q v z 7 g (by decide)) (fun r hr => hr.trans rfl)
set_option maxHeartbeats 4000000 in
theorem m_X4_cnt8 (l : Launch) (D : va_G) (cy : Nat → ClassId) (x : Nat) (sa ja ta : Nat → Nat) (h q : Nat) (v : Nat → Nat → Int32) (z : Nat) (g : Nat)  : Met l yX4_count wsX4_count ({ frames := 3, cells := 0, slots := 0, locals := 68 } : Room) (wl_pc D cy [([(x, .inr (4, [.ref (sa 0), .ref (ja 0), .ref (ta 0), .ref h, .ref q]))] : va_W), stW cy sa v, ([(h, .inr (0, [.ref g, .int (nI z)]))] : va_W)] [.ref x, .int (nI 8)]) (vp_Si (fun r : Int32 => r = q_cnt (v 3) 8)) 0 0 (fun _ => False) := by
  exact wl_pri (m_X4_count l D cy x sa ja ta h q v z 8 g (by decide)) (fun r hr => hr.trans rfl)
set_option maxHeartbeats 4000000 in
theorem m_X4_cnt9 (l : Launch) (D : va_G) (cy : Nat → ClassId) (x : Nat) (sa ja ta : Nat → Nat) (h q : Nat) (v : Nat → Nat → Int32) (z : Nat) (g : Nat)  : Met l yX4_count wsX4_count ({ frames := 3, cells := 0, slots := 0, locals := 68 } : Room) (wl_pc D cy [([(x, .inr (4, [.ref (sa 0), .ref (ja 0), .ref (ta 0), .ref h, .ref q]))] : va_W), stW cy sa v, ([(h, .inr (0, [.ref g, .int (nI z)]))] : va_W)] [.ref x, .int (nI 9)]) (vp_Si (fun r : Int32 => r = v 7 5)) 0 0 (fun _ => False) := by
  exact wl_pri (m_X4_count l D cy x sa ja ta h q v z 9 g (by decide)) (fun r hr => hr.trans rfl)
set_option maxHeartbeats 4000000 in
theorem m_X4_cnt10 (l : Launch) (D : va_G) (cy : Nat → ClassId) (x : Nat) (sa ja ta : Nat → Nat) (h q : Nat) (v : Nat → Nat → Int32) (z : Nat) (g : Nat)  : Met l yX4_count wsX4_count ({ frames := 3, cells := 0, slots := 0, locals := 68 } : Room) (wl_pc D cy [([(x, .inr (4, [.ref (sa 0), .ref (ja 0), .ref (ta 0), .ref h, .ref q]))] : va_W), stW cy sa v, ([(h, .inr (0, [.ref g, .int (nI z)]))] : va_W)] [.ref x, .int (nI 10)]) (vp_Si (fun r : Int32 => r = nI z)) 0 0 (fun _ => False) := by
  exact wl_pri (m_X4_count l D cy x sa ja ta h q v z 10 g (by decide)) (fun r hr => hr.trans rfl)
set_option maxHeartbeats 4000000 in
theorem m_X4_cnt3n (l : Launch) (D : va_G) (cy : Nat → ClassId) (x : Nat) (sa ja ta : Nat → Nat) (h q : Nat) (v : Nat → Nat → Int32) (z : Nat) (g : Nat) (T : Nat) (hn : v 7 2 = nI (12 * T)) : Met l yX4_count wsX4_count ({ frames := 3, cells := 0, slots := 0, locals := 68 } : Room) (wl_pc D cy [([(x, .inr (4, [.ref (sa 0), .ref (ja 0), .ref (ta 0), .ref h, .ref q]))] : va_W), stW cy sa v, ([(h, .inr (0, [.ref g, .int (nI z)]))] : va_W)] [.ref x, .int (nI 3)]) (vp_Si (fun r : Int32 => r = nI (12 * T))) 0 0 (fun _ => False) := by
  exact wl_pri (m_X4_count l D cy x sa ja ta h q v z 3 g (by decide)) (fun r hr => hr.trans hn)
set_option maxHeartbeats 4000000 in
theorem m_X4_lof0 (l : Launch) (D : va_G) (cy : Nat → ClassId) (x : Nat) (sa ja ta : Nat → Nat) (h q : Nat) (v : Nat → Nat → Int32) (i : Nat) (hi : i < 8) : Met l yX4_lampOf wsX4_lampOf ({ frames := 2, cells := 0, slots := 0, locals := 44 } : Room) (wl_pc D cy [([(x, .inr (4, [.ref (sa 0), .ref (ja 0), .ref (ta 0), .ref h, .ref q]))] : va_W), stW cy sa v] [.ref x, .int (nI i), .int (nI 0)]) (vp_Si (fun r : Int32 => r = v 0 i)) 0 0 (fun _ => False) := by
  exact m_X4_lampOf l D cy x sa ja ta h q v i 0 hi (by decide)
set_option maxHeartbeats 4000000 in
theorem m_X4_lof1 (l : Launch) (D : va_G) (cy : Nat → ClassId) (x : Nat) (sa ja ta : Nat → Nat) (h q : Nat) (v : Nat → Nat → Int32) (i : Nat) (hi : i < 8) : Met l yX4_lampOf wsX4_lampOf ({ frames := 2, cells := 0, slots := 0, locals := 44 } : Room) (wl_pc D cy [([(x, .inr (4, [.ref (sa 0), .ref (ja 0), .ref (ta 0), .ref h, .ref q]))] : va_W), stW cy sa v] [.ref x, .int (nI i), .int (nI 1)]) (vp_Si (fun r : Int32 => r = v 1 i)) 0 0 (fun _ => False) := by
  exact m_X4_lampOf l D cy x sa ja ta h q v i 1 hi (by decide)
set_option maxHeartbeats 4000000 in
theorem m_X4_lof2 (l : Launch) (D : va_G) (cy : Nat → ClassId) (x : Nat) (sa ja ta : Nat → Nat) (h q : Nat) (v : Nat → Nat → Int32) (i : Nat) (hi : i < 8) : Met l yX4_lampOf wsX4_lampOf ({ frames := 2, cells := 0, slots := 0, locals := 44 } : Room) (wl_pc D cy [([(x, .inr (4, [.ref (sa 0), .ref (ja 0), .ref (ta 0), .ref h, .ref q]))] : va_W), stW cy sa v] [.ref x, .int (nI i), .int (nI 2)]) (vp_Si (fun r : Int32 => r = v 2 i)) 0 0 (fun _ => False) := by
  exact m_X4_lampOf l D cy x sa ja ta h q v i 2 hi (by decide)
set_option maxHeartbeats 4000000 in
theorem m_X4_lof3 (l : Launch) (D : va_G) (cy : Nat → ClassId) (x : Nat) (sa ja ta : Nat → Nat) (h q : Nat) (v : Nat → Nat → Int32) (i : Nat) (hi : i < 8) : Met l yX4_lampOf wsX4_lampOf ({ frames := 2, cells := 0, slots := 0, locals := 44 } : Room) (wl_pc D cy [([(x, .inr (4, [.ref (sa 0), .ref (ja 0), .ref (ta 0), .ref h, .ref q]))] : va_W), stW cy sa v] [.ref x, .int (nI i), .int (nI 3)]) (vp_Si (fun r : Int32 => r = v 3 i)) 0 0 (fun _ => False) := by
  exact m_X4_lampOf l D cy x sa ja ta h q v i 3 hi (by decide)
set_option maxHeartbeats 4000000 in
theorem m_X4_lof7 (l : Launch) (D : va_G) (cy : Nat → ClassId) (x : Nat) (sa ja ta : Nat → Nat) (h q : Nat) (v : Nat → Nat → Int32) (i : Nat) (hi : i < 8) : Met l yX4_lampOf wsX4_lampOf ({ frames := 2, cells := 0, slots := 0, locals := 44 } : Room) (wl_pc D cy [([(x, .inr (4, [.ref (sa 0), .ref (ja 0), .ref (ta 0), .ref h, .ref q]))] : va_W), stW cy sa v] [.ref x, .int (nI i), .int (nI 7)]) (vp_Si (fun r : Int32 => r = v 4 i)) 0 0 (fun _ => False) := by
  exact m_X4_lampOf l D cy x sa ja ta h q v i 7 hi (by decide)
set_option maxHeartbeats 4000000 in
theorem m_X4_lof2n (l : Launch) (D : va_G) (cy : Nat → ClassId) (x : Nat) (sa ja ta : Nat → Nat) (h q : Nat) (v : Nat → Nat → Int32) (i m : Nat) (hi : i < 8) (hm : v 2 i = nI m) : Met l yX4_lampOf wsX4_lampOf ({ frames := 2, cells := 0, slots := 0, locals := 44 } : Room) (wl_pc D cy [([(x, .inr (4, [.ref (sa 0), .ref (ja 0), .ref (ta 0), .ref h, .ref q]))] : va_W), stW cy sa v] [.ref x, .int (nI i), .int (nI 2)]) (vp_Si (fun r : Int32 => r = nI m)) 0 0 (fun _ => False) := by
  exact wl_pri (m_X4_lof2 l D cy x sa ja ta h q v i hi) (fun r hr => hr.trans hm)
set_option maxHeartbeats 4000000 in
theorem m_X4_lof3n (l : Launch) (D : va_G) (cy : Nat → ClassId) (x : Nat) (sa ja ta : Nat → Nat) (h q : Nat) (v : Nat → Nat → Int32) (i m : Nat) (hi : i < 8) (hm : v 3 i = nI m) : Met l yX4_lampOf wsX4_lampOf ({ frames := 2, cells := 0, slots := 0, locals := 44 } : Room) (wl_pc D cy [([(x, .inr (4, [.ref (sa 0), .ref (ja 0), .ref (ta 0), .ref h, .ref q]))] : va_W), stW cy sa v] [.ref x, .int (nI i), .int (nI 3)]) (vp_Si (fun r : Int32 => r = nI m)) 0 0 (fun _ => False) := by
  exact wl_pri (m_X4_lof3 l D cy x sa ja ta h q v i hi) (fun r hr => hr.trans hm)
set_option maxHeartbeats 4000000 in
theorem m_X4_lof7n (l : Launch) (D : va_G) (cy : Nat → ClassId) (x : Nat) (sa ja ta : Nat → Nat) (h q : Nat) (v : Nat → Nat → Int32) (i m : Nat) (hi : i < 8) (hm : v 4 i = nI m) : Met l yX4_lampOf wsX4_lampOf ({ frames := 2, cells := 0, slots := 0, locals := 44 } : Room) (wl_pc D cy [([(x, .inr (4, [.ref (sa 0), .ref (ja 0), .ref (ta 0), .ref h, .ref q]))] : va_W), stW cy sa v] [.ref x, .int (nI i), .int (nI 7)]) (vp_Si (fun r : Int32 => r = nI m)) 0 0 (fun _ => False) := by
  exact wl_pri (m_X4_lof7 l D cy x sa ja ta h q v i hi) (fun r hr => hr.trans hm)
set_option maxHeartbeats 4000000 in
theorem m_X4_lof4k (l : Launch) (D : va_G) (cy : Nat → ClassId) (x : Nat) (sa ja ta : Nat → Nat) (h q : Nat) (v : Nat → Nat → Int32) (i k : Nat) (hi : i < 8) (hk : k < 3) : Met l yX4_lampOf wsX4_lampOf ({ frames := 2, cells := 0, slots := 0, locals := 44 } : Room) (wl_pc D cy [([(x, .inr (4, [.ref (sa 0), .ref (ja 0), .ref (ta 0), .ref h, .ref q]))] : va_W), stW cy sa v] [.ref x, .int (nI i), .int (nI (4 + k))]) (vp_Si (fun r : Int32 => r = q_shn v (q_br (v 3 i) (nI k)) (q_cw v))) 0 0 (fun _ => False) := by
  refine wl_pri (m_X4_lampOf l D cy x sa ja ta h q v i (4 + k) hi (by omega)) (fun r hr => hr.trans ?_)
  rcases (show k = 0 ∨ k = 1 ∨ k = 2 by omega) with rfl | rfl | rfl
  all_goals rfl
set_option maxHeartbeats 4000000 in
theorem m_X4_set2n (l : Launch) (D : va_G) (cy : Nat → ClassId) (x : Nat) (sa ja ta : Nat → Nat) (h q : Nat) (v : Nat → Nat → Int32) (c : Nat) (hc : v 5 2 = nI c) : Met l yX4_setting wsX4_setting ({ frames := 1, cells := 0, slots := 0, locals := 20 } : Room) (wl_pc D cy [([(x, .inr (4, [.ref (sa 0), .ref (ja 0), .ref (ta 0), .ref h, .ref q]))] : va_W), stW cy sa v] [.ref x, .int (nI 2)]) (vp_Si (fun r : Int32 => r = nI c)) 0 0 (fun _ => False) := by
  exact wl_pri (m_X4_setting l D cy x sa ja ta h q v 2 (by decide)) (fun r hr => hr.trans hc)
set_option maxHeartbeats 4000000 in
theorem m_X4_dig (l : Launch) (D : va_G) (cy : Nat → ClassId) (x : Nat) (sa ja ta : Nat → Nat) (h q : Nat) (w : Nat → Nat → Int32) (v : Nat → Nat → Int32) (g : Nat) (f : Nat → Option Nat) (n z : Nat) (sz : Nat) (hn : v 7 0 = nI n) (hn2 : n ≤ 120) (hs : ¬ v 5 2 < 0) : Met l yX4_digest wsX4_digest ({ frames := 5, cells := 0, slots := 0, locals := 120 } : Room) (wl_ic D cy (fun _ => True) [([(x, .inr (4, [.ref (sa 0), .ref (ja 0), .ref (ta 0), .ref h, .ref q]))] : va_W), joW cy ja w, stW cy sa v, ([(h, .inr (0, [.ref g, .int (nI z)]))] : va_W), txW cy ta q_z0, ([(q, .inl (cy 3, 2, (.inr (.inr (.inr (.inr f))))))] : va_W)] sz [.ref x]) (va_Ql (fun (r : Int64) (bs : List va_W) => r = p_dig v n z f ∧ bs = [([(x, .inr (4, [.ref (sa 0), .ref (ja 0), .ref (ta 0), .ref h, .ref q]))] : va_W), joW cy ja (q_gt v w n 8), stW cy sa v, ([(h, .inr (0, [.ref g, .int (nI z)]))] : va_W), txW cy ta q_z0, ([(q, .inl (cy 3, 2, (.inr (.inr (.inr (.inr f))))))] : va_W)]) (wl_ib D [([(x, .inr (4, [.ref (sa 0), .ref (ja 0), .ref (ta 0), .ref h, .ref q]))] : va_W), joW cy ja w, stW cy sa v, ([(h, .inr (0, [.ref g, .int (nI z)]))] : va_W), txW cy ta q_z0, ([(q, .inl (cy 3, 2, (.inr (.inr (.inr (.inr f))))))] : va_W)] sz) (va_A ([([(x, .inr (4, [.ref (sa 0), .ref (ja 0), .ref (ta 0), .ref h, .ref q]))] : va_W), joW cy ja w, stW cy sa v, ([(h, .inr (0, [.ref g, .int (nI z)]))] : va_W), txW cy ta q_z0, ([(q, .inl (cy 3, 2, (.inr (.inr (.inr (.inr f))))))] : va_W)] : List va_W).flatten sz)) 0 0 (va_A ([([(x, .inr (4, [.ref (sa 0), .ref (ja 0), .ref (ta 0), .ref h, .ref q]))] : va_W), joW cy ja w, stW cy sa v, ([(h, .inr (0, [.ref g, .int (nI z)]))] : va_W), txW cy ta q_z0, ([(q, .inl (cy 3, 2, (.inr (.inr (.inr (.inr f))))))] : va_W)] : List va_W).flatten sz) := by
  exact wl_pol (m_X4_digest l D cy x sa ja ta h q w v q_z0 g f n z 0 _ sz hn hn2 rfl (by omega) (fun y hy => absurd hy (Nat.not_lt_zero y)) (q_stF hs).1 (q_stF hs).2.2) (fun r u hu => ⟨hu.1.trans p_dig_w, hu.2⟩)
set_option maxHeartbeats 4000000 in
theorem m_X4_undoL (l : Launch) (D : va_G) (cy : Nat → ClassId) (x : Nat) (sa ja ta : Nat → Nat) (h q : Nat) (g : Nat) (L : HsL) (z : Nat) (v : Nat → Nat → Int32) (u : Nat → Nat → Int32) (sz : Nat) (hz : z ≤ L.length) (hL : L.length ≤ 6) (ht : ∃ V, (L.take z).map Prod.snd = V ++ [u]) : Met l yX4_undo wsX4_undo ({ frames := 2, cells := 0, slots := 0, locals := 45 } : Room) (wl_ic D cy (fun _ => True) [([(x, .inr (4, [.ref (sa 0), .ref (ja 0), .ref (ta 0), .ref h, .ref q]))] : va_W), ([(h, .inr (0, [.ref g, .int (nI z)]))] : va_W), ([(g, .inl (cy 3, 6, (.inr (.inr (.inr (.inr (q_rf L)))))))] : va_W), plW cy L, stW cy sa v] sz [.ref x]) (va_Qi (fun (r : Int32) (bs : List va_W) => r = nI (z - 1) ∧ bs = [([(x, .inr (4, [.ref (sa 0), .ref (ja 0), .ref (ta 0), .ref h, .ref q]))] : va_W), ([(h, .inr (0, [.ref g, .int (nI (z - 1))]))] : va_W), ([(g, .inl (cy 3, 6, (.inr (.inr (.inr (.inr (q_rf L)))))))] : va_W), plW cy L, stW cy sa u]) (wl_ib D [([(x, .inr (4, [.ref (sa 0), .ref (ja 0), .ref (ta 0), .ref h, .ref q]))] : va_W), ([(h, .inr (0, [.ref g, .int (nI z)]))] : va_W), ([(g, .inl (cy 3, 6, (.inr (.inr (.inr (.inr (q_rf L)))))))] : va_W), plW cy L, stW cy sa v] sz) (va_A ([([(x, .inr (4, [.ref (sa 0), .ref (ja 0), .ref (ta 0), .ref h, .ref q]))] : va_W), ([(h, .inr (0, [.ref g, .int (nI z)]))] : va_W), ([(g, .inl (cy 3, 6, (.inr (.inr (.inr (.inr (q_rf L)))))))] : va_W), plW cy L, stW cy sa v] : List va_W).flatten sz)) 0 0 (va_A ([([(x, .inr (4, [.ref (sa 0), .ref (ja 0), .ref (ta 0), .ref h, .ref q]))] : va_W), ([(h, .inr (0, [.ref g, .int (nI z)]))] : va_W), ([(g, .inl (cy 3, 6, (.inr (.inr (.inr (.inr (q_rf L)))))))] : va_W), plW cy L, stW cy sa v] : List va_W).flatten sz) := by
  obtain ⟨V, hV⟩ := ht
  have hz0 : 0 < z := by
    rcases Nat.eq_zero_or_pos z with q1 | q1
    · subst q1
      simp at hV
    · exact q1
  obtain ⟨L1, ⟨b, y⟩, L2, e, hl⟩ : ∃ (L1 : HsL) (y : (Nat → Nat) × (Nat → Nat → Int32)) (L2 : HsL), L = L1 ++ y :: L2 ∧ L1.length = z - 1 := ⟨L.take (z - 1), L[z - 1]'(by omega), L.drop (z - 1 + 1), by simp, by simp; omega⟩
  subst e
  obtain rfl : z = L1.length + 1 := by omega
  have ey : y = u := by
    simp [List.take_append] at hV
    exact hV.2
  subst ey
  have ew : ∀ (z : Nat) (v : Nat → Nat → Int32), ([wXB x sa ja ta h q, wHB h g z, wGB cy g (q_rf (L1 ++ (b, y) :: L2)), plW cy (L1 ++ (b, y) :: L2), stW cy sa v] : List va_W).flatten = ([wXB x sa ja ta h q, wHB h g z, wGB cy g (q_rf (L1 ++ (b, y) :: L2)), plW cy L1, stW cy b y, plW cy L2, stW cy sa v] : List va_W).flatten := by
    intro z v
    simp [plW_app, plW_cons]
  have hpm : ∀ (z : Nat) (v : Nat → Nat → Int32), (([wXB x sa ja ta h q, wHB h g z, wGB cy g (q_rf (L1 ++ (b, y) :: L2)), stW cy b y, stW cy sa v] : List va_W).flatten ++ ([plW cy L1, plW cy L2] : List va_W).flatten).Perm ([wXB x sa ja ta h q, wHB h g z, wGB cy g (q_rf (L1 ++ (b, y) :: L2)), plW cy (L1 ++ (b, y) :: L2), stW cy sa v] : List va_W).flatten := by
    intro z v
    rw [ew, ← List.flatten_append]
    exact (wl_perm [0, 1, 2, 5, 3, 6, 4] 7 rfl (by decide) rfl).flatten
  refine wl_fr (bsC := [wXB x sa ja ta h q, wHB h g (L1.length + 1), wGB cy g (q_rf (L1 ++ (b, y) :: L2)), stW cy b y, stW cy sa v]) (bsR := [plW cy L1, plW cy L2]) (m_X4_undo l D cy x sa ja ta h q g (q_rf (L1 ++ (b, y) :: L2)) (L1.length + 1) v b y sz (by omega) (by omega) (by simp [q_rf])) (hpm _ _) (fun U hU => hU) (fun r bs hb => ?_)
  obtain ⟨e1, e2⟩ := hb
  subst e2
  exact ⟨_, ⟨e1, rfl⟩, hpm _ _⟩
