/-! CLASS AGAINST REFERENCE, 3: a gap -/
def q_E0 (n : Nat) (v v' : Nat → Nat → Int32) : Prop := (∀ k, k < 2 → ∀ i, i < 8 → v k i = v' k i) ∧ (∀ i, i < 3 → v 5 i = v' 5 i) ∧ ∀ i, i < n → v 6 i = v' 6 i
section QF
variable {n : Nat} {v v' : Nat → Nat → Int32}
theorem f_cut (h : q_E0 n v v') : ∀ j, j ≤ 8 → q_cut v j = q_cut v' j
  | 0, _ => rfl
  | j + 1, hj => by
    simp only [q_cut]
    rw [f_cut h j (by omega), h.1 0 (by omega) j (by omega)]
theorem f_ta (h : q_E0 n v v') : ∀ j, j ≤ 8 → q_ta v j = q_ta v' j
  | 0, _ => rfl
  | j + 1, hj => by
    simp only [q_ta]
    rw [f_ta h j (by omega), h.1 0 (by omega) j (by omega)]
theorem f_ho (h : q_E0 n v v') (x : Int32) : q_ho v x = q_ho v' x := by
  unfold q_ho
  rw [h.2.1 1 (by omega), h.2.1 0 (by omega)]
theorem f_rd (h : q_E0 n v v') (x : Int32) : q_rd v x = q_rd v' x := by
  unfold q_rd
  rw [h.2.1 0 (by omega)]
theorem f_tr (h : q_E0 n v v') (x : Int32) : ∀ j, j ≤ 8 → q_tr v j x = q_tr v' j x
  | 0, _ => rfl
  | j + 1, hj => by
    simp only [q_tr]
    rw [f_tr h x j (by omega), h.1 0 (by omega) j (by omega), h.1 1 (by omega) j (by omega), f_ho h]
theorem f_ar (h : q_E0 n v v') (x : Int32) {j : Nat} (hj : j < 8) : q_ar v j x = q_ar v' j x := by
  unfold q_ar
  rw [f_tr h x j (by omega), h.1 1 (by omega) j hj]
theorem f_wbp (h : q_E0 n v v') {j : Nat} (hj : j < 8) (h2 : v 2 j = v' 2 j) : q_wbp v j n = q_wbp v' j n := by
  unfold q_wbp
  rw [f_ta h j (by omega), f_cut h j (by omega), h.1 0 (by omega) j hj, h2]
  split
  · rename_i hc
    exact q_wd_c 12 (fun i hi => by rw [f_rd h, f_ar h _ hj, h.2.2 _ (by omega)])
  · rfl
end QF
theorem q_gn_same {u : Nat → Nat → Int32} {n x : Nat} (hx : x < 16 ∨ 40 ≤ x) : ∀ i : Nat, i ≤ 8 → q_gn u n i 0 x = u 0 x
  | 0, _ => rfl
  | i + 1, hi => by
    have h9 := q_gn_same (u := u) (n := n) hx i (by omega)
    rw [← h9]
    show upd (upd (upd (q_gn u n i 0) (32 + i) _) (16 + i) _) (24 + i) _ x = _
    rw [q_upd, if_neg (by omega), q_upd, if_neg (by omega), q_upd, if_neg (by omega)]
theorem q_gn_E0 {u : Nat → Nat → Int32} {n i : Nat} (hi : i ≤ 8) : q_E0 n (zv (q_gn u n i)) (zv u) := by
  refine ⟨fun k hk j hj => ?_, fun j hj => q_gn_same (x := 40 + j) (by omega) i hi, fun j _ => q_gn_same (x := 50 + j) (by omega) i hi⟩
  rcases (show k = 0 ∨ k = 1 by omega) with rfl | rfl
  · exact q_gn_same (x := 0 + j) (by omega) i hi
  · exact q_gn_same (x := 8 + j) (by omega) i hi
theorem q_cm_gn {u : Nat → Nat → Int32} {n i j : Nat} (hi : i ≤ 8) (hj : j < 8) : q_cm (q_gn u n i) n j = q_cm u n j := by
  unfold q_cm
  rw [f_cut (q_gn_E0 hi) j (by omega), f_ta (q_gn_E0 hi) j (by omega)]
theorem q_gn_at {u : Nat → Nat → Int32} {n : Nat} (ht : u 6 3 = -1) : ∀ i : Nat, i ≤ 8 → ∀ j, j < 8 → q_gn u n i 0 (32 + j) = (if j < i then nI (q_cm u n j) else u 0 (32 + j)) ∧ q_gn u n i 0 (16 + j) = (if j < i then q_wb u n j else u 0 (16 + j)) ∧ q_gn u n i 0 (24 + j) = (if j < i then (if zv u 0 j = 0 then q_wb u n j else 0) else u 0 (24 + j))
  | 0, _, j, _ => ⟨rfl, rfl, rfl⟩
  | i + 1, hi, j, hj => by
    obtain ⟨h1, h2, h3⟩ := q_gn_at (n := n) ht i (by omega) j hj
    have hw : q_wb (q_gn u n i) n i = q_wb u n i := by
      rw [q_wb_wbp ((q_gn_inv u n i (by omega)).1.trans ht), q_wb_wbp ht]
      refine f_wbp (q_gn_E0 (by omega)) (by omega) ?_
      have := (q_gn_at (n := n) ht i (by omega) i (by omega)).2.1
      rw [if_neg (by omega)] at this
      exact this
    have hm : zv (q_gn u n i) 0 i = zv u 0 i := (q_gn_E0 (n := n) (by omega)).1 0 (by omega) i (by omega)
    have hc := q_cm_gn (u := u) (n := n) (i := i) (j := i) (by omega) (by omega)
    have e : ∀ x, q_gn u n (i + 1) 0 x = upd (upd (upd (q_gn u n i 0) (32 + i) (nI (q_cm u n i))) (16 + i) (q_wb u n i)) (24 + i) (if zv u 0 i = 0 then q_wb u n i else 0) x := by
      intro x
      have e1 : zv (su (su (q_gn u n i) 0 (32 + i) (nI (q_cm (q_gn u n i) n i))) 0 (16 + i) (q_wb (q_gn u n i) n i)) 0 i = zv u 0 i := by
        rw [← hm]
        show upd (upd (q_gn u n i 0) (32 + i) _) (16 + i) _ (0 + i) = q_gn u n i 0 (0 + i)
        rw [q_upd, if_neg (by omega), q_upd, if_neg (by omega)]
      show upd (upd (upd (q_gn u n i 0) (32 + i) (nI (q_cm (q_gn u n i) n i))) (16 + i) (q_wb (q_gn u n i) n i)) (24 + i) (if zv (su (su (q_gn u n i) 0 (32 + i) (nI (q_cm (q_gn u n i) n i))) 0 (16 + i) (q_wb (q_gn u n i) n i)) 0 i = 0 then q_wb (q_gn u n i) n i else 0) x = _
      rw [e1, hw, hc]
    rw [e, e, e]
    simp only [q_upd]
    by_cases hji : j = i
    · subst hji
      refine ⟨?_, ?_, ?_⟩
      · rw [if_neg (by omega), if_neg (by omega), if_pos rfl, if_pos (by omega)]
      · rw [if_neg (by omega), if_pos rfl, if_pos (by omega)]
      · rw [if_pos rfl]
        exact (if_pos (by omega)).symm
    · have hl : j < i + 1 ↔ j < i := by omega
      simp only [hl]
      refine ⟨?_, ?_, ?_⟩
      · rw [if_neg (by omega), if_neg (by omega), if_neg (by omega)]
        exact h1
      · rw [if_neg (by omega), if_neg (by omega), if_neg (by omega)]
        exact h2
      · rw [if_neg (by omega), if_neg (by omega), if_neg (by omega)]
        exact h3
