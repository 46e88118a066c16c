/-! OWN LIBRARY 1: worlds as blocks -/
def wl_off : List va_W → Nat → Nat
  | [], _ => 0
  | _ :: _, 0 => 0
  | b :: bs, j + 1 => b.length + wl_off bs j
theorem wl_get : ∀ {bs : List va_W} {b : va_W} {x : Nat × va_E} {j i : Nat}, bs[j]? = some b → b[i]? = some x → bs.flatten[wl_off bs j + i]? = some x
  | [], _, _, _, _, h, _ => by simp at h
  | b0 :: bs, b, x, 0, i, h, hi => by
    have h : b0 = b := by simpa using h
    subst h
    show (b0 ++ bs.flatten)[0 + i]? = some x
    rw [Nat.zero_add, List.getElem?_append_left (List.getElem?_eq_some_iff.mp hi).1]
    exact hi
  | b0 :: bs, b, x, j + 1, i, h, hi => by
    show (b0 ++ bs.flatten)[b0.length + wl_off bs j + i]? = some x
    rw [List.getElem?_append_right (by omega), show b0.length + wl_off bs j + i - b0.length = wl_off bs j + i by omega]
    exact wl_get (by simpa using h) hi
theorem wl_set : ∀ {bs : List va_W} {b : va_W} {x : Nat × va_E} {j i : Nat} (_ : bs[j]? = some b) (_ : b[i]? = some x) (y : Nat × va_E), bs.flatten.set (wl_off bs j + i) y = (bs.set j (b.set i y)).flatten
  | [], _, _, _, _, h, _, _ => by simp at h
  | b0 :: bs, b, x, 0, i, h, hi, y => by
    have h : b0 = b := by simpa using h
    subst h
    show (b0 ++ bs.flatten).set (0 + i) y = (b0.set i y) ++ bs.flatten
    rw [Nat.zero_add, List.set_append_left _ _ (List.getElem?_eq_some_iff.mp hi).1]
  | b0 :: bs, b, x, j + 1, i, h, hi, y => by
    show (b0 ++ bs.flatten).set (b0.length + wl_off bs j + i) y = b0 ++ (bs.set j (b.set i y)).flatten
    rw [List.set_append_right _ _ (by omega), show b0.length + wl_off bs j + i - b0.length = wl_off bs j + i by omega, wl_set (by simpa using h) hi]
theorem wl_P {D : va_G} {cl : List vw_C} {ws : va_W} {H : Heap} : va_P D cl ws H ↔ ∀ q ∈ ws, va_at D cl q H := by
  constructor
  · intro h q hq
    obtain ⟨k, hk⟩ := List.getElem?_of_mem hq
    exact h k q hk
  · intro h k q hk
    exact h q (List.mem_of_getElem? hk)
theorem wl_D {A : Nat → Prop} {ws : va_W} : va_D A ws ↔ (ws.map Prod.fst).Nodup ∧ ∀ q ∈ ws, A q.1 := by
  constructor
  · intro h
    refine ⟨?_, fun q hq => ?_⟩
    · rw [List.Nodup, List.pairwise_map, List.pairwise_iff_getElem]
      intro i j hi hj hij he
      have := h.1 i j ws[i] ws[j] (List.getElem?_eq_getElem hi) (List.getElem?_eq_getElem hj) he
      omega
    · obtain ⟨k, hk⟩ := List.getElem?_of_mem hq
      exact h.2 k q hk
  · rintro ⟨h1, h2⟩
    refine ⟨fun i j p q hi hj he => ?_, fun k q hk => h2 q (List.mem_of_getElem? hk)⟩
    rw [List.Nodup, List.pairwise_map, List.pairwise_iff_getElem] at h1
    obtain ⟨li, ei⟩ := List.getElem?_eq_some_iff.mp hi
    obtain ⟨lj, ej⟩ := List.getElem?_eq_some_iff.mp hj
    rcases Nat.lt_trichotomy i j with q1 | q1 | q1
    · exact absurd (by rw [ei, ej]; exact he) (h1 i j li lj q1)
    · exact q1
    · exact absurd (by rw [ei, ej]; exact he.symm) (h1 j i lj li q1)
theorem wl_Pp {D : va_G} {cl : List vw_C} {ws ws' : va_W} {H : Heap} (hp : ws.Perm ws') (h : va_P D cl ws H) : va_P D cl ws' H := wl_P.mpr fun q hq => wl_P.mp h q (hp.symm.subset hq)
theorem wl_Dp {A : Nat → Prop} {ws ws' : va_W} (hp : ws.Perm ws') (h : va_D A ws) : va_D A ws' := by
  rw [wl_D] at h ⊢
  exact ⟨(hp.map Prod.fst).nodup_iff.mp h.1, fun q hq => h.2 q (hp.symm.subset hq)⟩
/-- blocks in another order, by their places -/
theorem wl_perm {bs bs' : List va_W} (is : List Nat) (n : Nat) (hl : bs.length = n) (hp : is.Perm (List.range n)) (hs : is.map (fun i => bs[i]?) = bs'.map some) : bs.Perm bs' := by
  subst hl
  have e : (List.range bs.length).map (fun i => bs[i]?) = bs.map some := by
    apply List.ext_getElem?
    intro k
    by_cases hk : k < bs.length
    · simp [hk]
    · simp [hk]
  have h1 : (bs'.map some).Perm (bs.map some) := by
    rw [← hs, ← e]
    exact hp.map _
  have h2 := h1.filterMap id
  simp only [List.filterMap_map] at h2
  have e2 : ∀ l : List va_W, l.filterMap (id ∘ some) = l := fun l => by
    induction l with
    | nil => rfl
    | cons a l ih => simp
  rw [e2, e2] at h2
  exact h2.symm
theorem wl_Po {D : va_G} {cl : List vw_C} {bs bs' : List va_W} {H : Heap} (is : List Nat) (n : Nat) (hl : bs.length = n) (hp : is.Perm (List.range n)) (hs : is.map (fun i => bs[i]?) = bs'.map some) (h : va_P D cl bs.flatten H) : va_P D cl bs'.flatten H := wl_Pp (wl_perm is n hl hp hs).flatten h
theorem wl_Do {A : Nat → Prop} {bs bs' : List va_W} (is : List Nat) (n : Nat) (hl : bs.length = n) (hp : is.Perm (List.range n)) (hs : is.map (fun i => bs[i]?) = bs'.map some) (h : va_D A bs.flatten) : va_D A bs'.flatten := wl_Dp (wl_perm is n hl hp hs).flatten h
/-- some of the blocks -/
theorem wl_Psub {D : va_G} {cl : List vw_C} {bs bs' : List va_W} {H : Heap} (is : List Nat) (hs : is.map (fun i => bs[i]?) = bs'.map some) (h : va_P D cl bs.flatten H) : va_P D cl bs'.flatten H := by
  rw [wl_P] at h ⊢
  intro q hq
  obtain ⟨b, hb, hqb⟩ := List.mem_flatten.mp hq
  have : some b ∈ is.map (fun i => bs[i]?) := by rw [hs]; exact List.mem_map.mpr ⟨b, hb, rfl⟩
  obtain ⟨i, -, hi⟩ := List.mem_map.mp this
  exact h q (List.mem_flatten.mpr ⟨b, List.mem_of_getElem? hi, hqb⟩)
theorem wl_Dl {A : Nat → Prop} {w1 w2 : va_W} (h : va_D A (w1 ++ w2)) : va_D A w1 := by
  rw [wl_D] at h ⊢
  rw [List.map_append] at h
  exact ⟨(List.nodup_append.mp h.1).1, fun q hq => h.2 q (List.mem_append_left _ hq)⟩
theorem wl_Dr {A : Nat → Prop} {w1 w2 : va_W} (h : va_D A (w1 ++ w2)) : va_D A w2 := by
  rw [wl_D] at h ⊢
  rw [List.map_append] at h
  exact ⟨(List.nodup_append.mp h.1).2.1, fun q hq => h.2 q (List.mem_append_right _ hq)⟩
theorem wl_Dx {A : Nat → Prop} {w1 w2 : va_W} (h : va_D A (w1 ++ w2)) {p q : Nat × va_E} (hp : p ∈ w1) (hq : q ∈ w2) : p.1 ≠ q.1 := by
  have h1 := (wl_D.mp h).1
  rw [List.map_append] at h1
  exact (List.nodup_append.mp h1).2.2 _ (List.mem_map_of_mem hp) _ (List.mem_map_of_mem hq)
theorem wl_Amem {ws : va_W} {sz q : Nat} : va_A ws sz q ↔ (∃ x ∈ ws, x.1 = q) ∨ sz ≤ q := by
  constructor
  · rintro (⟨k, e, h⟩ | h)
    · exact Or.inl ⟨(q, e), List.mem_of_getElem? h, rfl⟩
    · exact Or.inr h
  · rintro (⟨x, h, rfl⟩ | h)
    · obtain ⟨k, hk⟩ := List.getElem?_of_mem h
      exact Or.inl ⟨k, x.2, hk⟩
    · exact Or.inr h
/-- behind a call on w1 (now w1'), the rest w2 as it was -/
theorem wl_join {A0 : Nat → Prop} {D : va_G} {cl : List vw_C} {w1 w1' w2 : va_W} {H H1 : Heap} (hP : va_P D cl (w1 ++ w2) H) (hD : va_D A0 (w1 ++ w2)) (hF : ∀ q, va_A w1 H.size q → A0 q)
    (hk : ∀ q : Nat, q < H.size → ¬ va_A w1 H.size q → H1[q]? = H[q]?) (hP1 : va_P D cl w1' H1) (hD1 : va_D (va_A w1 H.size) w1') : va_P D cl (w1' ++ w2) H1 ∧ va_D A0 (w1' ++ w2) := by
  have ap : ∀ q ∈ w2, q.1 < H.size ∧ ¬ va_A w1 H.size q.1 := by
    intro q hq
    have hl : q.1 < H.size := (wl_P.mp hP q (List.mem_append_right _ hq)).lt
    refine ⟨hl, fun h => ?_⟩
    rcases wl_Amem.mp h with ⟨x, hx, he⟩ | h
    · exact wl_Dx hD hx hq he
    · omega
  refine ⟨wl_P.mpr fun q hq => ?_, ?_⟩
  · rcases List.mem_append.mp hq with h | h
    · exact wl_P.mp hP1 q h
    · exact (wl_P.mp hP q (List.mem_append_right _ h)).kept (hk q.1 (ap q h).1 (ap q h).2)
  · have h1 := wl_D.mp hD1
    have h2 := wl_D.mp (wl_Dr hD)
    rw [wl_D, List.map_append]
    refine ⟨List.nodup_append.mpr ⟨h1.1, h2.1, fun a ha b hb hab => ?_⟩, fun q hq => ?_⟩
    · obtain ⟨x, hx, rfl⟩ := List.mem_map.mp ha
      obtain ⟨z, hz, rfl⟩ := List.mem_map.mp hb
      exact (ap z hz).2 (by rw [← hab]; exact h1.2 x hx)
    · rcases List.mem_append.mp hq with h | h
      · exact hF _ (h1.2 q h)
      · exact h2.2 q h
theorem wl_free {A0 : Nat → Prop} {w1 w2 : va_W} {H0 H : Heap} {locs : List Loc} (hD : va_D A0 (w1 ++ w2)) (hS : va_S A0 H0 H locs) (hA : ∀ q, H0.size ≤ q → A0 q) : ∀ q, va_A w1 H.size q → A0 q := by
  intro q h
  rcases wl_Amem.mp h with ⟨x, hx, rfl⟩ | h
  · exact (wl_D.mp hD).2 x (List.mem_append_left _ hx)
  · exact hA q (Nat.le_trans hS.1 h)
