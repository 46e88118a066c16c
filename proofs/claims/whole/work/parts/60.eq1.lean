/-! CLASS AGAINST REFERENCE, 1 -/
theorem q_cm_0 {u : Nat → Nat → Int32} {j : Nat} (hj : j < 8) : q_cm u 96 j = 0 ↔ q_cut (zv u) j = true := by
  have h := q_ta_le (zv u) j
  unfold q_cm
  split
  · rename_i hc
    exact ⟨fun _ => hc, fun _ => rfl⟩
  · rename_i hc
    exact ⟨fun q => by omega, fun q => absurd q hc⟩
theorem q_bf_bk {u : Nat → Nat → Int32} : q_bf u 8 = q_bk (zv u) := by
  have c0 := q_cm_0 (u := u) (j := 0) (by omega)
  have c1 := q_cm_0 (u := u) (j := 1) (by omega)
  have c2 := q_cm_0 (u := u) (j := 2) (by omega)
  have c3 := q_cm_0 (u := u) (j := 3) (by omega)
  have c4 := q_cm_0 (u := u) (j := 4) (by omega)
  have c5 := q_cm_0 (u := u) (j := 5) (by omega)
  have c6 := q_cm_0 (u := u) (j := 6) (by omega)
  have c7 := q_cm_0 (u := u) (j := 7) (by omega)
  simp only [q_bk, q_bks, q_bf, Nat.sub_self, Nat.reduceSub, Nat.reduceAdd, Nat.sub_zero, c0, c1, c2, c3, c4, c5, c6, c7, q_cut, Bool.false_or, Bool.or_eq_true, decide_eq_true_eq, Bool.false_eq_true, if_false]
  by_cases h0 : zv u 0 0 = 2
  · simp [h0]
  by_cases h1 : zv u 0 1 = 2
  · simp [h0, h1]
  by_cases h2 : zv u 0 2 = 2
  · simp [h0, h1, h2]
  by_cases h3 : zv u 0 3 = 2
  · simp [h0, h1, h2, h3]
  by_cases h4 : zv u 0 4 = 2
  · simp [h0, h1, h2, h3, h4]
  by_cases h5 : zv u 0 5 = 2
  · simp [h0, h1, h2, h3, h4, h5]
  by_cases h6 : zv u 0 6 = 2
  · simp [h0, h1, h2, h3, h4, h5, h6]
  simp [h0, h1, h2, h3, h4, h5, h6]
theorem q_tk1_iff {u : Nat → Nat → Int32} {n j : Nat} : q_tk1 u n j ↔ ((zv u 0 j = 0 ∨ zv u 0 j = 1) ∧ q_cut (zv u) j = false) ∧ (q_ta (zv u) j + 1) * 12 ≤ n := by
  constructor
  · rintro ⟨h1, h2⟩
    unfold q_cm at h2
    split at h2
    · omega
    · rename_i hc
      exact ⟨⟨h1, by simpa using hc⟩, by omega⟩
  · rintro ⟨⟨h1, h2⟩, h3⟩
    refine ⟨h1, ?_⟩
    unfold q_cm
    rw [if_neg (by rw [h2]; decide)]
    omega
theorem q_wb_wbp {u : Nat → Nat → Int32} {n j : Nat} (ht : u 6 3 = -1) : q_wb u n j = q_wbp (zv u) j n := by
  unfold q_wb q_wbp
  by_cases h : q_tk1 u n j
  · rw [if_pos h, if_pos (q_tk1_iff.mp h)]
    unfold q_wbm
    refine q_wd_c 12 (fun i _ => ?_)
    rw [q_rdm_eq]
    unfold q_le
    rw [if_pos ht, Nat.mul_comm]
  · rw [if_neg h, if_neg (fun q => h (q_tk1_iff.mpr q))]
theorem q_nm_co {u : Nat → Nat → Int32} {z k : Nat} (hs : u 0 44 = zv u 7 2 + zv u 7 3 + zv u 7 4 + zv u 7 0) (hz : u 6 0 = nI z) (hk : k < 11) : q_nm u k = q_co (zv u) z k := by
  unfold q_nm q_co
  rcases (show k = 0 ∨ k = 1 ∨ k = 2 ∨ k = 3 ∨ k = 4 ∨ k = 5 ∨ k = 6 ∨ k = 7 ∨ k = 8 ∨ k = 9 ∨ k = 10 by omega) with rfl | rfl | rfl | rfl | rfl | rfl | rfl | rfl | rfl | rfl | rfl <;> first | rfl | exact hs | exact hz
