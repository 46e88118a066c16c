/-! THE REFERENCE: a text read, against the class's q_ep, q_wt, q_wat -/
theorem q_fst_eq {f : Nat → Bool} {n s : Nat} (hs : s ≤ n) (hf : ∀ q, q < s → f q = true) (he : s = n ∨ f s = false) : ∀ (m i : Nat), i + m = n → i ≤ s → q_fst f m i = s
  | 0, i, h1, h2 => by
    simp only [q_fst]
    omega
  | m + 1, i, h1, h2 => by
    simp only [q_fst]
    by_cases hi : i = s
    · subst hi
      rcases he with he | he
      · omega
      · rw [he]
        simp
    · rw [hf i (by omega), if_pos rfl]
      exact q_fst_eq hs hf he m (i + 1) (by omega) (by omega)
theorem q_ep_eq {t : Nat → Nat → Int32} {n s : Nat} (hs : s ≤ n) (hf : ∀ q, q < s → q_ft t n q = true) (he : s = n ∨ q_ft t n s = false) : q_ep t n = s :=
  q_fst_eq hs hf he n 0 (by omega) (by omega)
theorem q_sg_at {t : Nat → Nat → Int32} {n i : Nat} (hn : n ≤ 60) (hi : i < n) : q_sg t n (nI i) = t 0 i := by
  unfold q_sg
  rw [if_neg (nI_pos (by omega)), nI_clamp (by omega), if_pos hi]
theorem q_sg_pr {t : Nat → Nat → Int32} {n i : Nat} (hn : n ≤ 60) (hi : i < n) : q_sg t n (nI (i + 1) - 1) = t 0 i := by
  rw [show (1 : Int32) = nI 1 from rfl, pk_sub (by omega), show i + 1 - 1 = i by omega]
  exact q_sg_at hn hi
theorem q_sg_0 {t : Nat → Nat → Int32} {n : Nat} : q_sg t n (nI 0 - 1) = 32 := by
  unfold q_sg
  rw [if_pos (by decide)]
theorem q_dg33 : q_dg 33 = -1 := by decide
theorem q_dg44 : q_dg 44 = -1 := by decide
/-- what stands ahead of a place is no '!' -/
def q_nb (t : Nat → Nat → Int32) (i : Nat) : Prop := i = 0 ∨ ∃ j, i = j + 1 ∧ ¬ t 0 j = 33
theorem q_nb_sg {t : Nat → Nat → Int32} {n i : Nat} (hn : n ≤ 60) (hi : i ≤ n) (h : q_nb t i) : ¬ q_sg t n (nI i - 1) = 33 := by
  rcases h with rfl | ⟨j, rfl, h⟩
  · rw [q_sg_0]
    decide
  · rw [q_sg_pr hn (by omega)]
    exact h
theorem q_nb_dg {t : Nat → Nat → Int32} {i : Nat} (h : ¬ q_dg (t 0 i) = -1) : q_nb t (i + 1) := Or.inr ⟨i, rfl, fun q => h (by rw [q]; decide)⟩
theorem q_ft_dg {t : Nat → Nat → Int32} {n i : Nat} (hn : n ≤ 60) (hi : i < n) (h10 : ¬ 10 ≤ i / 4) (h4 : ¬ 3 ≤ i % 4) (hb : q_nb t i) : q_ft t n i = if q_dg (t 0 i) = -1 then false else true := by
  unfold q_ft
  rw [if_neg h10, if_neg (q_nb_sg hn (by omega) hb), if_neg h4, q_sg_at hn hi]
theorem q_ft_sep {t : Nat → Nat → Int32} {n i : Nat} (hn : n ≤ 60) (hi : i < n) (h10 : ¬ 10 ≤ i / 4) (h4 : 3 ≤ i % 4) (hb : q_nb t i) : q_ft t n i = if t 0 i = 33 then true else if t 0 i = 44 then (if 9 ≤ i / 4 then false else true) else false := by
  unfold q_ft
  rw [if_neg h10, if_neg (q_nb_sg hn (by omega) hb), if_pos h4, q_sg_at hn hi]
theorem q_ft_bang {t : Nat → Nat → Int32} {n i : Nat} (hn : n ≤ 60) (hi : i < n) (h : t 0 i = 33) (h2 : i + 1 < n) : q_ft t n (i + 1) = false := by
  unfold q_ft
  split
  · rfl
  · rw [q_sg_pr hn hi, if_pos h]
theorem q_r5 {u Y : Nat → Nat → Int32} {i : Nat} {x : Int32} (h : ∀ r, r < 5 → Y r = u r) : ∀ r, r < 5 → su Y 6 i x r = u r := fun r hr => by
  show (if r = 6 then upd (Y r) i x else Y r) = u r
  rw [if_neg (by omega)]
  exact h r hr
/-- what is read so far: rows as they were, the spot, all places ahead of it fit -/
def q_RB (u : Nat → Nat → Int32) (k : Nat) (Y : Nat → Nat → Int32) (i : Nat) : Prop := (∀ r, r < 5 → Y r = u r) ∧ (Y 6 0 = u 6 0 ∧ Y 6 1 = u 6 1 ∧ Y 6 2 = u 6 2 ∧ Y 6 3 = u 6 3) ∧ Y 6 6 = nI i ∧ i ≤ k ∧ ∀ q, q < i → q_ft (tv u) k q = true
def q_RG (u : Nat → Nat → Int32) (k j : Nat) (Y : Nat → Nat → Int32) : Prop := q_RB u k Y (4 * j + 3) ∧ j < 10 ∧ Y 6 4 = nI (j + 1) ∧ (∀ i, i ≤ j → Y 5 i = q_wat (tv u) k i) ∧ ¬ q_dg (u 4 (4 * j + 2)) = -1
def q_RX (u : Nat → Nat → Int32) (k : Nat) (Y : Nat → Nat → Int32) : Prop := ∃ i, q_RB u k Y i ∧ (i = k ∨ q_ft (tv u) k i = false) ∧ q_wt (tv u) k = 0
theorem q_wt_0 {t : Nat → Nat → Int32} {n i : Nat} (hn : n ≤ 60) (hi : i ≤ n) (hf : ∀ q, q < i → q_ft t n q = true) (he : i = n ∨ q_ft t n i = false) (hb : q_nb t i) (h4 : ¬ i % 4 = 3) : q_wt t n = 0 := by
  have e := q_ep_eq hi hf he
  unfold q_wt
  rw [e]
  by_cases h : i < n
  · rw [if_pos h]
  · obtain rfl : i = n := by omega
    rw [if_neg h]
    have e2 : q_wm0 t i = i := if_neg (q_nb_sg hn (Nat.le_refl _) hb)
    rw [e2, if_neg h4]
theorem q_wt_s {t : Nat → Nat → Int32} {n i : Nat} (hi : i < n) (hf : ∀ q, q < i → q_ft t n q = true) (he : q_ft t n i = false) : q_wt t n = 0 := by
  have e := q_ep_eq (by omega) hf (Or.inr he)
  unfold q_wt
  rw [e, if_pos hi]
theorem q_step_c {u Y : Nat → Nat → Int32} {k w : Nat} (h4 : Y 4 = u 4) : q_rc Y k w = q_rc u k w := by
  unfold q_rc
  simp only [q_gd, h4]
/-- one word more -/
theorem q_step {u Y : Nat → Nat → Int32} {k j : Nat} (hk : k ≤ 60) (hj : j < 10) (hB : q_RB u k Y (4 * j)) (hm : Y 6 4 = nI j) (ht : ∀ i, i < j → Y 5 i = q_wat (tv u) k i) (hb : q_nb (tv u) (4 * j)) :
    (q_rc Y k (4 * j) = 3 → q_RG u k j (q_rwo Y k (4 * j) j)) ∧ (¬ q_rc Y k (4 * j) = 3 → q_RX u k (q_rwo Y k (4 * j) j)) := by
  obtain ⟨h1, h2, h3, h5, h6⟩ := hB
  have h4 : Y 4 = u 4 := h1 4 (by omega)
  -- digits that stand fit
  have fit0 : q_gd u k (4 * j + 0) → q_ft (tv u) k (4 * j + 0) = true := fun g => by
    rw [q_ft_dg hk g.1 (by omega) (by omega) hb]
    exact if_neg g.2
  have fit1 : q_gd u k (4 * j + 0) → q_gd u k (4 * j + 1) → q_ft (tv u) k (4 * j + 1) = true := fun g0 g => by
    rw [q_ft_dg hk g.1 (by omega) (by omega) (q_nb_dg (t := tv u) g0.2)]
    exact if_neg g.2
  have fit2 : q_gd u k (4 * j + 1) → q_gd u k (4 * j + 2) → q_ft (tv u) k (4 * j + 2) = true := fun g1 g => by
    rw [q_ft_dg hk g.1 (by omega) (by omega) (q_nb_dg (t := tv u) g1.2)]
    exact if_neg g.2
  -- the state behind a bad word
  have bad : ∀ c, c < 3 → q_rc Y k (4 * j) = c → 4 * j + c ≤ k → (∀ q, q < 4 * j + c → q_ft (tv u) k q = true) → (4 * j + c = k ∨ q_ft (tv u) k (4 * j + c) = false) → q_nb (tv u) (4 * j + c) → q_RX u k (q_rwo Y k (4 * j) j) := by
    intro c hc e hle hf he hn
    have ez : q_rwo Y k (4 * j) j = su Y 6 6 (nI (4 * j + c)) := by
      unfold q_rwo
      rw [if_neg (by omega), e]
    rw [ez]
    exact ⟨4 * j + c, ⟨q_r5 h1, h2, rfl, hle, hf⟩, he, q_wt_0 hk hle hf he hn (by omega)⟩
  have nof : ∀ c, c < 3 → q_nb (tv u) (4 * j + c) → ¬ q_gd u k (4 * j + c) → 4 * j + c ≤ k → (4 * j + c = k ∨ q_ft (tv u) k (4 * j + c) = false) := by
    intro c hc hn hg hle
    rcases Nat.lt_or_ge (4 * j + c) k with q | q
    · refine Or.inr ?_
      rw [q_ft_dg hk q (by omega) (by omega) hn]
      refine if_pos ?_
      exact Decidable.byContradiction fun q2 => hg ⟨q, q2⟩
    · exact Or.inl (by omega)
  have ec := q_step_c (k := k) (w := 4 * j) h4
  by_cases g0 : q_gd u k (4 * j + 0)
  · by_cases g1 : q_gd u k (4 * j + 1)
    · by_cases g2 : q_gd u k (4 * j + 2)
      · have e : q_rc Y k (4 * j) = 3 := by
          rw [ec]
          unfold q_rc
          rw [if_pos g0, if_pos g1, if_pos g2]
        refine ⟨fun _ => ?_, fun h => absurd e h⟩
        have ez : q_rwo Y k (4 * j) j = su (su (su Y 6 6 (nI (4 * j + 3))) 5 j (q_rw Y (4 * j))) 6 4 (nI (j + 1)) := if_pos e
        rw [ez]
        refine ⟨⟨?_, h2, rfl, by have := g2.1; omega, ?_⟩, hj, rfl, ?_, g2.2⟩
        · intro r hr
          show (if r = 6 then upd _ 4 _ else if r = 5 then upd _ j _ else if r = 6 then _ else Y r) = u r
          rw [if_neg (by omega), if_neg (by omega), if_neg (by omega)]
          exact h1 r hr
        · intro q hq
          rcases Nat.lt_or_ge q (4 * j) with q1 | q1
          · exact h6 q q1
          · rcases (show q = 4 * j + 0 ∨ q = 4 * j + 1 ∨ q = 4 * j + 2 by omega) with rfl | rfl | rfl
            · exact fit0 g0
            · exact fit1 g0 g1
            · exact fit2 g1 g2
        · intro i hi
          show upd (Y 5) j (q_rw Y (4 * j)) i = _
          rw [q_upd]
          by_cases hij : i = j
          · subst hij
            rw [if_pos rfl]
            unfold q_rw q_wat
            rw [h4]
            simp only [q_hex]
            have a0 := q_sg_at (t := tv u) hk g0.1
            have a1 := q_sg_at (t := tv u) hk g1.1
            have a2 := q_sg_at (t := tv u) hk g2.1
            rw [show i * 4 = 4 * i by omega, a0, a1, a2]
            rfl
          · rw [if_neg hij]
            exact ht i (by omega)
      · have e : q_rc Y k (4 * j) = 2 := by
          rw [ec]
          unfold q_rc
          rw [if_pos g0, if_pos g1, if_neg g2]
        refine ⟨fun h => by omega, fun _ => ?_⟩
        have hle : 4 * j + 2 ≤ k := by have := g1.1; omega
        refine bad 2 (by omega) e hle ?_ (nof 2 (by omega) (q_nb_dg (t := tv u) g1.2) g2 hle) (q_nb_dg (t := tv u) g1.2)
        intro q hq
        rcases Nat.lt_or_ge q (4 * j) with q1 | q1
        · exact h6 q q1
        · rcases (show q = 4 * j + 0 ∨ q = 4 * j + 1 by omega) with rfl | rfl
          · exact fit0 g0
          · exact fit1 g0 g1
    · have e : q_rc Y k (4 * j) = 1 := by
        rw [ec]
        unfold q_rc
        rw [if_pos g0, if_neg g1]
      refine ⟨fun h => by omega, fun _ => ?_⟩
      have hle : 4 * j + 1 ≤ k := by have := g0.1; omega
      refine bad 1 (by omega) e hle ?_ (nof 1 (by omega) (q_nb_dg (t := tv u) g0.2) g1 hle) (q_nb_dg (t := tv u) g0.2)
      intro q hq
      rcases Nat.lt_or_ge q (4 * j) with q1 | q1
      · exact h6 q q1
      · obtain rfl : q = 4 * j + 0 := by omega
        exact fit0 g0
  · have e : q_rc Y k (4 * j) = 0 := by
      rw [ec]
      unfold q_rc
      rw [if_neg g0]
    refine ⟨fun h => by omega, fun _ => ?_⟩
    exact bad 0 (by omega) e h5 h6 (nof 0 (by omega) hb g0 h5) hb
/-- what readText leaves -/
def q_RT (u : Nat → Nat → Int32) (k : Nat) (Z : Nat → Nat → Int32) : Prop := (∀ r, r < 5 → Z r = u r) ∧ (Z 6 0 = u 6 0 ∧ Z 6 1 = u 6 1 ∧ Z 6 2 = u 6 2 ∧ Z 6 3 = u 6 3) ∧ Z 6 6 = nI (q_ep (tv u) k) ∧ (¬ q_wt (tv u) k = 0 → Z 6 4 = nI (q_wt (tv u) k) ∧ q_wt (tv u) k ≤ 10 ∧ (∀ i, i < q_wt (tv u) k → Z 5 i = q_wat (tv u) k i) ∧ Z 6 5 = if q_sg (tv u) k (nI k - 1) = 33 then 1 else 0)
theorem q_end_x {u Y : Nat → Nat → Int32} {k : Nat} (h : q_RX u k Y) : q_wt (tv u) k = 0 ∧ q_RT u k (su Y 6 5 0) := by
  obtain ⟨i, ⟨h1, h2, h3, h4, h5⟩, h6, h7⟩ := h
  refine ⟨h7, q_r5 h1, h2, ?_, fun q => absurd h7 q⟩
  rw [q_ep_eq h4 h5 h6]
  exact h3
/-- a word, then '!' -/
theorem q_end_b {u Y : Nat → Nat → Int32} {k j : Nat} (hk : k ≤ 60) (h : q_RG u k j Y) (hlt : ¬ k ≤ 4 * j + 3) (hs : u 4 (4 * j + 3) = 33) : (q_wt (tv u) k = 0 ↔ ¬ 4 * j + 4 = k) ∧ q_RT u k (su (su Y 6 6 (nI (4 * j + 4))) 6 5 1) := by
  obtain ⟨⟨h1, h2, h3, h4, h5⟩, h6, h7, h8, h9⟩ := h
  have hf : ∀ q, q < 4 * j + 4 → q_ft (tv u) k q = true := by
    intro q hq
    rcases Nat.lt_or_ge q (4 * j + 3) with q1 | q1
    · exact h5 q q1
    · obtain rfl : q = 4 * j + 3 := by omega
      rw [q_ft_sep hk (by omega) (by omega) (by omega) (q_nb_dg (t := tv u) (i := 4 * j + 2) h9)]
      exact if_pos hs
  have he : 4 * j + 4 = k ∨ q_ft (tv u) k (4 * j + 4) = false := by
    rcases Nat.lt_or_ge (4 * j + 4) k with q | q
    · exact Or.inr (q_ft_bang (t := tv u) (i := 4 * j + 3) hk (by omega) hs q)
    · exact Or.inl (by omega)
  have ee := q_ep_eq (by omega) hf he
  have hw : 4 * j + 4 = k → q_wt (tv u) k = j + 1 := by
    intro e
    have e1 : q_sg (tv u) k (nI k - 1) = 33 := by
      rw [← e]
      rw [q_sg_pr (i := 4 * j + 3) (by omega) (by omega)]
      exact hs
    unfold q_wt
    rw [ee, if_neg (by omega)]
    have e2 : q_wm0 (tv u) k = 4 * j + 3 := by
      unfold q_wm0
      rw [if_pos e1]
      omega
    rw [e2, if_pos (by omega)]
    omega
  have hw0 : ¬ 4 * j + 4 = k → q_wt (tv u) k = 0 := fun q => q_wt_s (by omega) hf (he.resolve_left q)
  refine ⟨⟨fun q e => by have := hw e; omega, hw0⟩, q_r5 (q_r5 h1), h2, ?_, fun q => ?_⟩
  · rw [ee]
    rfl
  · have e : 4 * j + 4 = k := Decidable.byContradiction fun q2 => q (hw0 q2)
    have e1 : q_sg (tv u) k (nI k - 1) = 33 := by
      rw [← e]
      rw [q_sg_pr (i := 4 * j + 3) (by omega) (by omega)]
      exact hs
    rw [hw e, if_pos e1]
    exact ⟨h7, by omega, fun i hi => h8 i (by omega), rfl⟩
/-- a word, then neither -/
theorem q_end_n {u Y : Nat → Nat → Int32} {k j : Nat} (hk : k ≤ 60) (h : q_RG u k j Y) (hs : k ≤ 4 * j + 3 ∨ (¬ u 4 (4 * j + 3) = 33 ∧ (¬ u 4 (4 * j + 3) = 44 ∨ 10 ≤ j + 1))) : (q_wt (tv u) k = 0 ↔ ¬ 4 * j + 3 = k) ∧ q_RT u k (su (su Y 6 6 (nI (4 * j + 3))) 6 5 0) := by
  obtain ⟨⟨h1, h2, h3, h4, h5⟩, h6, h7, h8, h9⟩ := h
  have he : 4 * j + 3 = k ∨ q_ft (tv u) k (4 * j + 3) = false := by
    rcases hs with hs | ⟨hs1, hs2⟩
    · exact Or.inl (by omega)
    · rcases Nat.lt_or_ge (4 * j + 3) k with q | q
      · refine Or.inr ?_
        rw [q_ft_sep hk q (by omega) (by omega) (q_nb_dg (t := tv u) (i := 4 * j + 2) h9)]
        show (if u 4 (4 * j + 3) = 33 then true else if u 4 (4 * j + 3) = 44 then (if 9 ≤ (4 * j + 3) / 4 then false else true) else false) = false
        rw [if_neg hs1]
        rcases hs2 with hs2 | hs2
        · rw [if_neg hs2]
        · split
          · rw [if_pos (by omega)]
          · rfl
      · exact Or.inl (by omega)
  have ee := q_ep_eq h4 h5 he
  have e1 : 4 * j + 3 = k → ¬ q_sg (tv u) k (nI k - 1) = 33 := fun e => by
    have := q_nb_sg (t := tv u) (i := 4 * j + 3) hk h4 (q_nb_dg (t := tv u) (i := 4 * j + 2) h9)
    rw [e] at this
    exact this
  have hw : 4 * j + 3 = k → q_wt (tv u) k = j + 1 := by
    intro e
    unfold q_wt
    rw [ee, if_neg (by omega)]
    have e2 : q_wm0 (tv u) k = 4 * j + 3 := by
      unfold q_wm0
      rw [if_neg (e1 e)]
      exact e.symm
    rw [e2, if_pos (by omega)]
    omega
  have hw0 : ¬ 4 * j + 3 = k → q_wt (tv u) k = 0 := fun q => q_wt_s (by omega) h5 (he.resolve_left q)
  refine ⟨⟨fun q e => by have := hw e; omega, hw0⟩, q_r5 (q_r5 h1), h2, ?_, fun q => ?_⟩
  · rw [ee]
    rfl
  · have e : 4 * j + 3 = k := Decidable.byContradiction fun q2 => q (hw0 q2)
    rw [hw e, if_neg (e1 e)]
    exact ⟨h7, by omega, fun i hi => h8 i (by omega), rfl⟩
/-- a word, then ',' -/
theorem q_comma {u Y : Nat → Nat → Int32} {k j : Nat} (hk : k ≤ 60) (h : q_RG u k j Y) (hj : ¬ 10 ≤ j + 1) (hlt : ¬ k ≤ 4 * j + 3) (hs : u 4 (4 * j + 3) = 44) : q_RB u k (su Y 6 6 (nI (4 * j + 3 + 1))) (4 * (j + 1)) ∧ q_nb (tv u) (4 * (j + 1)) := by
  obtain ⟨⟨h1, h2, h3, h4, h5⟩, h6, h7, h8, h9⟩ := h
  refine ⟨⟨q_r5 h1, h2, rfl, by omega, ?_⟩, Or.inr ⟨4 * j + 3, by omega, ?_⟩⟩
  · intro q hq
    rcases Nat.lt_or_ge q (4 * j + 3) with q1 | q1
    · exact h5 q q1
    · obtain rfl : q = 4 * j + 3 := by omega
      rw [q_ft_sep hk (by omega) (by omega) (by omega) (q_nb_dg (t := tv u) (i := 4 * j + 2) h9)]
      show (if u 4 (4 * j + 3) = 33 then true else if u 4 (4 * j + 3) = 44 then (if 9 ≤ (4 * j + 3) / 4 then false else true) else false) = true
      rw [hs, if_neg (by decide), if_pos rfl, if_neg (by omega)]
  · show ¬ u 4 (4 * j + 3) = 33
    rw [hs]
    decide
theorem q_inv {u Y : Nat → Nat → Int32} {k j : Nat} {x : Int32} (hk : k ≤ 60) (hj : j < 10) (hB : q_RB u k Y (4 * j)) (hm : Y 6 4 = nI j) (ht : ∀ i, i < j → Y 5 i = q_wat (tv u) k i) (hb : q_nb (tv u) (4 * j)) (hx : x = (if q_rc Y k (4 * j) = 3 then 1 else 0)) : (x = 1 ∧ q_RG u k j (q_rwo Y k (4 * j) j)) ∨ (x = 0 ∧ q_RX u k (q_rwo Y k (4 * j) j)) := by
  have h := q_step hk hj hB hm ht hb
  by_cases e : q_rc Y k (4 * j) = 3
  · rw [if_pos e] at hx
    exact Or.inl ⟨hx, h.1 e⟩
  · rw [if_neg e] at hx
    exact Or.inr ⟨hx, h.2 e⟩
