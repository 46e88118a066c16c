/-! CLASS AGAINST REFERENCE, 4: behind a gap -/
theorem q_lg_r {v w : Nat → Nat → Int32} {k : Nat} (hk : ¬ k = 2 ∧ ¬ k = 3 ∧ ¬ k = 4) : ∀ i : Nat, q_lg v w i k = v k
  | 0 => rfl
  | i + 1 => by
    rw [← q_lg_r (v := v) (w := w) hk i]
    simp only [q_lg, su, if_neg hk.1, if_neg hk.2.1, if_neg hk.2.2]
theorem q_lg_at {v w : Nat → Nat → Int32} : ∀ i : Nat, ∀ j, q_lg v w i 2 j = (if j < i then w 1 j else v 2 j) ∧ q_lg v w i 4 j = (if j < i then w 0 j else v 4 j) ∧ q_lg v w i 3 j = (if j < i then (if v 0 j = 0 then w 1 j else 0) else v 3 j)
  | 0, j => ⟨rfl, rfl, rfl⟩
  | i + 1, j => by
    obtain ⟨h1, h2, h3⟩ := q_lg_at (v := v) (w := w) i j
    have h0 : q_lg v w i 0 = v 0 := q_lg_r ⟨by decide, by decide, by decide⟩ i
    have e2 : q_lg v w (i + 1) 2 j = upd (q_lg v w i 2) i (w 1 i) j := rfl
    have e4 : q_lg v w (i + 1) 4 j = upd (q_lg v w i 4) i (w 0 i) j := rfl
    have e3 : q_lg v w (i + 1) 3 j = upd (q_lg v w i 3) i (if q_lg v w i 0 i = 0 then w 1 i else 0) j := rfl
    rw [e2, e4, e3, h0]
    simp only [q_upd]
    by_cases hji : j = i
    · subst hji
      refine ⟨?_, ?_, ?_⟩
      · rw [if_pos rfl, if_pos (by omega)]
      · rw [if_pos rfl, if_pos (by omega)]
      · rw [if_pos rfl]
        exact (if_pos (by omega)).symm
    · have hl : j < i + 1 ↔ j < i := by omega
      simp only [hl]
      refine ⟨?_, ?_, ?_⟩
      · rw [if_neg hji]
        exact h1
      · rw [if_neg hji]
        exact h2
      · rw [if_neg hji]
        exact h3
theorem q_cmv_cm {u : Nat → Nat → Int32} {n j : Nat} : q_cmv (zv u) n j = q_cm u n j := rfl
theorem q_gk_tk {u : Nat → Nat → Int32} {n : Nat} : ∀ i : Nat, q_gk (zv u) n i = 12 * q_tk u n i
  | 0 => rfl
  | i + 1 => by
    have h := q_gk_tk (u := u) (n := n) i
    have hc : n - q_gf (zv u) n i = q_cm u n i := q_came (zv u) n i
    simp only [q_gk, q_tk]
    rw [hc, h]
    by_cases ht : zv u 0 i = 0 ∨ zv u 0 i = 1
    · rw [if_pos ht]
      by_cases h12 : 12 ≤ q_cm u n i
      · rw [if_pos h12, if_pos ⟨ht, h12⟩]
        omega
      · rw [if_neg h12, if_neg (fun q => h12 q.2)]
        rfl
    · rw [if_neg ht, if_neg (fun q => ht q.1)]
      rfl
theorem e_gf {n : Nat} {v v' : Nat → Nat → Int32} (h : q_E n v v') : ∀ i, i ≤ 8 → q_gf v n i = q_gf v' n i := by
  intro i hi
  rw [q_gf_eq, q_gf_eq, e_cut h i hi, e_ta h i hi]
theorem e_gk {n : Nat} {v v' : Nat → Nat → Int32} (h : q_E n v v') : ∀ i, i ≤ 8 → q_gk v n i = q_gk v' n i
  | 0, _ => rfl
  | i + 1, hi => by
    simp only [q_gk]
    rw [e_gk h i (by omega), e_gf h i (by omega), h.1 0 (by omega) i (by omega)]
/-- how many know another word -/
theorem q_lc_gc {u v w : Nat → Nat → Int32} {n : Nat} (h : q_E n v (zv u)) (ht : u 6 3 = -1) : ∀ i, i ≤ 8 → q_lc v (q_gt v w n 8) i = q_gc u n i
  | 0, _ => rfl
  | i + 1, hi => by
    simp only [q_lc, q_gc]
    rw [q_lc_gc h ht i (by omega)]
    have a1 : q_lg v (q_gt v w n 8) i 2 i = zv u 2 i := by
      rw [(q_lg_at i i).1, if_neg (by omega)]
      exact h.1 2 (by omega) i (by omega)
    have a2 : q_gt v w n 8 1 i = q_wb u n i := by
      rw [((q_gt_all v w n 8 (by omega)).2 i (by omega)).1, q_wb_wbp ht, e_wbp h (by omega)]
    have b1 : zv (q_gn u n i) 2 i = zv u 2 i := by
      have := (q_gn_at (n := n) ht i (by omega) i (by omega)).2.1
      rw [if_neg (by omega)] at this
      exact this
    have b2 : q_wb (q_gn u n i) n i = q_wb u n i := by
      rw [q_wb_wbp ((q_gn_inv u n i (by omega)).1.trans ht), q_wb_wbp ht]
      exact f_wbp (q_gn_E0 (by omega)) (by omega) b1
    rw [a1, a2, b1, b2]
    by_cases e : zv u 2 i = q_wb u n i
    · rw [if_pos e, if_pos e.symm]
      exact (Int32.add_zero _).symm
    · rw [if_neg e, if_neg (fun q => e q.symm)]
