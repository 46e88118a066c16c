/-! CLASS AGAINST REFERENCE, 2: the journey, lamp by lamp -/
def q_cmv (v : Nat → Nat → Int32) (n j : Nat) : Nat := if q_cut v j = true then 0 else n - 12 * q_ta v j
theorem q_cut_s {v : Nat → Nat → Int32} {i : Nat} : q_cut v (i + 1) = true ↔ (q_cut v i = true ∨ v 0 i = 2) := by
  show (q_cut v i || decide (v 0 i = 2)) = true ↔ _
  simp
theorem q_gf_eq (v : Nat → Nat → Int32) (n : Nat) : ∀ i : Nat, q_gf v n i = if q_cut v i = true then n else min n (12 * q_ta v i)
  | 0 => (Nat.min_zero n).symm
  | i + 1 => by
    have h := q_gf_eq v n i
    simp only [q_gf, q_ta]
    by_cases hc : q_cut v i = true
    · rw [if_pos hc] at h
      rw [h, if_pos (q_cut_s.mpr (Or.inl hc))]
      repeat' split
      all_goals omega
    · rw [if_neg hc] at h
      rw [h]
      by_cases ht : v 0 i = 0 ∨ v 0 i = 1
      · have hb : ¬ v 0 i = 2 := by
          rcases ht with e | e <;> rw [e] <;> decide
        rw [if_pos ht, if_pos ht, if_neg (fun q => (q_cut_s.mp q).elim hc hb)]
        split <;> omega
      · rw [if_neg ht, if_neg ht]
        by_cases hb : v 0 i = 2
        · rw [if_pos hb, if_pos (q_cut_s.mpr (Or.inr hb))]
        · rw [if_neg hb, if_neg (fun q => (q_cut_s.mp q).elim hc hb)]
theorem q_came (v : Nat → Nat → Int32) (n i : Nat) : n - q_gf v n i = q_cmv v n i := by
  rw [q_gf_eq]
  unfold q_cmv
  split <;> omega
theorem q_gt_all (v w : Nat → Nat → Int32) (n : Nat) : ∀ i : Nat, i ≤ 8 → (∀ q, q_gf v n i ≤ q → q < n → q_gt v w n i 2 q = q_tr v i (v 6 q)) ∧ (∀ j, j < i → q_gt v w n i 1 j = q_wbp v j n ∧ q_gt v w n i 0 j = nI (q_cmv v n j))
  | 0, _ => ⟨fun q _ _ => rfl, fun j hj => absurd hj (Nat.not_lt_zero j)⟩
  | i + 1, hi => by
    obtain ⟨hA, hB⟩ := q_gt_all v w n i (by omega)
    have hfl := q_gf_le v n i
    have hcm := q_came v n i
    -- behind the wire
    have s2 : ∀ q, q_gf v n i ≤ q → q < n → q_gs v i (q_gt v w n i) (q_gf v n i) n 2 q = q_ar v i (v 6 q) := by
      intro q h1 h2
      show q_pm (fun y => q_sh y (v 1 i)) (q_gt v w n i 2) (q_gf v n i) n q = _
      rw [q_pm_ap, if_pos ⟨h1, h2⟩, hA q h1 h2]
      rfl
    have s1 : ∀ j, q_gs v i (q_gt v w n i) (q_gf v n i) n 1 j = if j = i then v 2 i else q_gt v w n i 1 j := fun j => rfl
    have s0 : ∀ j, q_gs v i (q_gt v w n i) (q_gf v n i) n 0 j = if j = i then nI (n - q_gf v n i) else q_gt v w n i 0 j := fun j => rfl
    have b0 : ∀ j, j < i + 1 → q_gs v i (q_gt v w n i) (q_gf v n i) n 0 j = nI (q_cmv v n j) := by
      intro j hj
      rw [s0]
      by_cases e : j = i
      · subst e
        rw [if_pos rfl, hcm]
      · rw [if_neg e]
        exact (hB j (by omega)).2
    have b1 : ∀ j, j < i → q_gs v i (q_gt v w n i) (q_gf v n i) n 1 j = q_wbp v j n := by
      intro j hj
      rw [s1, if_neg (by omega)]
      exact (hB j hj).1
    by_cases ht : v 0 i = 0 ∨ v 0 i = 1
    · have eg : q_gt v w n (i + 1) = q_pt v (q_gs v i (q_gt v w n i) (q_gf v n i) n) i (q_gf v n i) n (q_gk v n i) := if_pos ht
      by_cases h12 : 12 ≤ n - q_gf v n i
      · have ef : q_gf v n (i + 1) = q_gf v n i + 12 := by
          simp only [q_gf]
          rw [if_pos ht, if_pos h12]
        have hcut : q_cut v i = false ∧ q_gf v n i = 12 * q_ta v i ∧ (q_ta v i + 1) * 12 ≤ n := by
          have hg := q_gf_eq v n i
          by_cases hc : q_cut v i = true
          · rw [if_pos hc] at hg
            omega
          · rw [if_neg hc] at hg
            exact ⟨by simpa using hc, by omega, by omega⟩
        rw [eg]
        unfold q_pt
        rw [if_pos h12]
        refine ⟨fun q h1 h2 => ?_, fun j hj => ⟨?_, b0 j hj⟩⟩
        · rw [ef] at h1
          show q_pm (q_ho v) (q_gs v i (q_gt v w n i) (q_gf v n i) n 2) (q_gf v n i + 12) n q = _
          rw [q_pm_ap, if_pos ⟨h1, h2⟩, s2 q (by omega) h2]
          simp only [q_tr]
          rw [if_pos ht]
          rfl
        · show (if j = i then q_wd (fun d => q_rd v (q_gs v i (q_gt v w n i) (q_gf v n i) n 2 (q_gf v n i + d))) 12 else q_gs v i (q_gt v w n i) (q_gf v n i) n 1 j) = _
          by_cases e : j = i
          · subst e
            rw [if_pos rfl]
            unfold q_wbp
            rw [if_pos ⟨⟨ht, hcut.1⟩, hcut.2.2⟩]
            refine q_wd_c 12 (fun d hd => ?_)
            rw [s2 _ (by omega) (by omega), hcut.2.1, Nat.mul_comm]
          · rw [if_neg e]
            exact b1 j (by omega)
      · have ef : q_gf v n (i + 1) = n := by
          simp only [q_gf]
          rw [if_pos ht, if_neg h12]
        rw [eg]
        unfold q_pt
        rw [if_neg h12]
        refine ⟨fun q h1 h2 => by omega, fun j hj => ⟨?_, b0 j hj⟩⟩
        show q_gs v i (q_gt v w n i) (q_gf v n i) n 1 j = _
        by_cases e : j = i
        · subst e
          rw [s1, if_pos rfl]
          unfold q_wbp
          rw [if_neg]
          rintro ⟨⟨-, hc⟩, hn⟩
          have hg := q_gf_eq v n j
          rw [hc] at hg
          simp at hg
          omega
        · exact b1 j (by omega)
    · have ew : ∀ j, j < i + 1 → q_gs v i (q_gt v w n i) (q_gf v n i) n 1 j = q_wbp v j n := by
        intro j hj
        by_cases e : j = i
        · subst e
          rw [s1, if_pos rfl]
          unfold q_wbp
          rw [if_neg (fun q => ht q.1.1)]
        · exact b1 j (by omega)
      by_cases hb : v 0 i = 2
      · have eg : q_gt v w n (i + 1) = su (q_gs v i (q_gt v w n i) (q_gf v n i) n) 3 1 (nI n) := by
          simp only [q_gt]
          rw [if_neg ht, if_pos hb]
        have ef : q_gf v n (i + 1) = n := by
          simp only [q_gf]
          rw [if_neg ht, if_pos hb]
        rw [eg]
        exact ⟨fun q h1 h2 => by omega, fun j hj => ⟨ew j hj, b0 j hj⟩⟩
      · have eg : q_gt v w n (i + 1) = q_gs v i (q_gt v w n i) (q_gf v n i) n := by
          simp only [q_gt]
          rw [if_neg ht, if_neg hb]
        have ef : q_gf v n (i + 1) = q_gf v n i := by
          simp only [q_gf]
          rw [if_neg ht, if_neg hb]
        rw [eg, ef]
        refine ⟨fun q h1 h2 => ?_, fun j hj => ⟨ew j hj, b0 j hj⟩⟩
        rw [s2 q h1 h2]
        simp only [q_tr]
        rw [if_neg ht]
        rfl
