/-! History.save, whole -/
theorem wl_reb {l : Launch} {y : MethodName} {ws : List Cond} {rm : Room} {D : va_G} {cy : Nat → ClassId} {X : State → Prop} {bs bs2 : List va_W} {sz : Nat} {av : List Value} {post post2 : List va_W → Prop} {mc ms : Nat} (e : bs.flatten = bs2.flatten) (h : Met l y ws rm (wl_ic D cy X bs sz av) (va_Qv post (wl_ib D bs sz) (va_A bs.flatten sz)) mc ms (va_A bs.flatten sz)) (hpost : ∀ u, post u → ∃ u2, post2 u2 ∧ u.flatten.Perm u2.flatten) : Met l y ws rm (wl_ic D cy X bs2 sz av) (va_Qv post2 (wl_ib D bs2 sz) (va_A bs2.flatten sz)) mc ms (va_A bs2.flatten sz) := by
  have e1 : wl_ic D cy X bs2 sz av = wl_ic D cy X bs sz av := by
    unfold wl_ic
    rw [e]
  have e2 : wl_ib D bs2 sz = wl_ib D bs sz := by
    unfold wl_ib
    rw [e]
  rw [e1, e2, ← e]
  refine wl_conv h (fun _ _ h => h) (fun a s o t _ hq => ?_)
  obtain ⟨⟨u, h1, h2, h3⟩, hF⟩ := hq
  obtain ⟨u2, p1, p2⟩ := hpost u h2
  refine ⟨⟨u2, h1, p1, ?_⟩, hF⟩
  exact ⟨wl_Pp p2 h3.1, wl_Dp p2 h3.2⟩
def q_push (V : List (Nat → Nat → Int32)) (v : Nat → Nat → Int32) : List (Nat → Nat → Int32) := (if V.length = 6 then V.tail else V) ++ [v]
theorem q_rf_set {L1 L2 : HsL} {x : (Nat → Nat) × (Nat → Nat → Int32)} {v : Nat → Nat → Int32} : q_rf (L1 ++ (x.1, v) :: L2) = q_rf (L1 ++ x :: L2) := by
  funext k
  simp only [q_rf]
  rcases Nat.lt_trichotomy k L1.length with h | h | h
  · rw [List.getElem?_append_left h, List.getElem?_append_left h]
  · subst h
    simp
  · rw [List.getElem?_append_right (by omega), List.getElem?_append_right (by omega)]
    obtain ⟨i, hi⟩ : ∃ i, k - L1.length = i + 1 := ⟨k - L1.length - 1, by omega⟩
    rw [hi]
    simp
theorem q_rf_new {L : HsL} {b : Nat → Nat} {v : Nat → Nat → Int32} : q_rf (L ++ [(b, v)]) = va_up (q_rf L) L.length (some (b 0)) := by
  funext k
  simp only [q_rf, va_up]
  rcases Nat.lt_trichotomy k L.length with h | h | h
  · rw [List.getElem?_append_left h, if_neg (by omega)]
  · subst h
    simp
  · rw [if_neg (by omega), List.getElem?_eq_none (by simp; omega), List.getElem?_eq_none (by omega)]
set_option maxHeartbeats 4000000 in
theorem m_X0_save (l : Launch) (D : va_G) (cy : Nat → ClassId) (h g : Nat) (L : HsL) (z : Nat) (a : Nat → Nat) (v : Nat → Nat → Int32) (sz : Nat) (hz : z ≤ L.length) (hL : L.length ≤ 6) : Met l yX0_save wsX0_save ({ frames := 2, cells := 8, slots := 176, locals := 45 } : Room) (wl_ic D cy wl_E [([(h, .inr (0, [.ref g, .int (nI z)]))] : va_W), ([(g, .inl (cy 3, 6, (.inr (.inr (.inr (.inr (q_rf L)))))))] : va_W), plW cy L, stW cy a v] sz [.ref h, .ref (a 0)]) (va_Qv (fun bs : List va_W => ∃ (L1 : HsL) (z1 : Nat), bs = [([(h, .inr (0, [.ref g, .int (nI z1)]))] : va_W), ([(g, .inl (cy 3, 6, (.inr (.inr (.inr (.inr (q_rf L1)))))))] : va_W), plW cy L1, stW cy a v] ∧ z1 ≤ L1.length ∧ L1.length ≤ 6 ∧ (L1.take z1).map Prod.snd = q_push ((L.take z).map Prod.snd) v) (wl_ib D [([(h, .inr (0, [.ref g, .int (nI z)]))] : va_W), ([(g, .inl (cy 3, 6, (.inr (.inr (.inr (.inr (q_rf L)))))))] : va_W), plW cy L, stW cy a v] sz) (va_A ([([(h, .inr (0, [.ref g, .int (nI z)]))] : va_W), ([(g, .inl (cy 3, 6, (.inr (.inr (.inr (.inr (q_rf L)))))))] : va_W), plW cy L, stW cy a v] : List va_W).flatten sz)) 8 176 (va_A ([([(h, .inr (0, [.ref g, .int (nI z)]))] : va_W), ([(g, .inl (cy 3, 6, (.inr (.inr (.inr (.inr (q_rf L)))))))] : va_W), plW cy L, stW cy a v] : List va_W).flatten sz) := by
  rcases Nat.lt_or_ge z 6 with hz6 | hz6
  · rcases Nat.lt_or_ge z L.length with hzL | hzL
    · -- an object is there
      obtain ⟨L1, x, L2, e, hl⟩ : ∃ (L1 : HsL) (x : (Nat → Nat) × (Nat → Nat → Int32)) (L2 : HsL), L = L1 ++ x :: L2 ∧ L1.length = z := ⟨L.take z, L[z], L.drop (z + 1), by simp, by simp; omega⟩
      subst e
      subst hl
      refine wl_reb ?_ (m_X0_save_B l D cy h g (q_rf (L1 ++ x :: L2)) L1.length (plW cy L1) (plW cy L2) x.1 x.2 a v sz hz6 (by simp [q_rf])) (fun u hu => ?_)
      · simp [plW_app, plW_cons]
      · subst hu
        refine ⟨_, ⟨L1 ++ (x.1, v) :: L2, L1.length + 1, rfl, by simp, by simp at hL ⊢; exact hL, ?_⟩, ?_⟩
        · simp [q_push, List.take_append]
          rw [if_neg (by omega), List.take_of_length_le (by simp)]
        · refine List.Perm.of_eq ?_
          rw [q_rf_set (L1 := L1) (L2 := L2) (x := x) (v := v)]
          simp [plW_app, plW_cons]
    · -- a new one
      obtain rfl : z = L.length := by omega
      refine wl_reb rfl (m_X0_save_C l D cy h g (q_rf L) L.length (plW cy L) a v sz hz6 (by simp [q_rf])) (fun u hu => ?_)
      obtain ⟨b, hu⟩ := hu
      subst hu
      refine ⟨_, ⟨L ++ [(b, v)], L.length + 1, rfl, by simp, by simp; omega, ?_⟩, ?_⟩
      · simp [q_push]
        rw [if_neg (by omega), List.take_of_length_le (by simp)]
      · refine List.Perm.of_eq ?_
        rw [q_rf_new]
        simp [plW_app, plW_cons]
        rfl
  · -- six: the oldest goes
    obtain rfl : z = 6 := by omega
    have h6 : L.length = 6 := by omega
    match L, h6 with
    | [x0, x1, x2, x3, x4, x5], _ =>
      refine wl_reb ?_ (m_X0_save_A l D cy h g x0 x1 x2 x3 x4 x5 a v sz) (fun u hu => ?_)
      · simp [plW]
      · subst hu
        refine ⟨_, ⟨[x1, x2, x3, x4, x5, (x0.1, v)], 6, rfl, by simp, by simp, by simp [q_push]⟩, ?_⟩
        have e : q_rf [x1, x2, x3, x4, x5, (x0.1, v)] = q_rf [x1, x2, x3, x4, x5, x0] := q_rf_set (L1 := [x1, x2, x3, x4, x5]) (L2 := [])
        rw [e]
        refine (wl_perm (bs' := [([(h, .inr (0, [.ref g, .int (nI 6)]))] : va_W), ([(g, .inl (cy 3, 6, (.inr (.inr (.inr (.inr (q_rf [x1, x2, x3, x4, x5, x0])))))))] : va_W), stW cy x1.1 x1.2, stW cy x2.1 x2.2, stW cy x3.1 x3.2, stW cy x4.1 x4.2, stW cy x5.1 x5.2, stW cy x0.1 v, stW cy a v]) [0, 1, 3, 4, 5, 6, 7, 2, 8] 9 rfl (by decide) rfl).flatten.trans (List.Perm.of_eq ?_)
        simp [plW]
