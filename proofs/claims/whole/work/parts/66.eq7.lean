/-! CLASS AGAINST REFERENCE, 7: eight trial words; the greatest loss -/
theorem q_cut_p {v : Nat → Nat → Int32} {i : Nat} (h : q_cut v (i + 1) = false) : q_cut v i = false := by
  by_cases h2 : q_cut v i = true
  · rw [q_cut_s.mpr (Or.inl h2)] at h
    exact absurd h (by decide)
  · simpa using h2
theorem q_wo_tr {v : Nat → Nat → Int32} {x : Int32} : ∀ i : Nat, q_cut v i = false → q_wo v (v 1) x i = q_tr v i x
  | 0, _ => rfl
  | i + 1, h => by
    have h1 := q_cut_p h
    simp only [q_wo, q_tr]
    rw [q_wo_tr i h1]
    by_cases ht : v 0 i = 0 ∨ v 0 i = 1
    · rw [if_pos ht, if_pos ht, if_pos h1]
    · rw [if_neg ht, if_neg ht]
theorem q_kn_wb {u : Nat → Nat → Int32} {i k : Nat} (hi : i < 8) (hk : k ≤ 4095) : q_wb (su u 6 3 (nI k)) 96 i = q_kn (zv u) (zv u 1) (nI k) i := by
  have e63 : su u 6 3 (nI k) 6 3 = nI k := rfl
  have hne : ¬ su u 6 3 (nI k) 6 3 = -1 := by
    rw [e63]
    exact wl_nm1 hk (by omega)
  have htk : q_tk1 (su u 6 3 (nI k)) 96 i ↔ ((zv u 0 i = 0 ∨ zv u 0 i = 1) ∧ q_cut (zv u) i = false) := by
    refine ⟨fun h => (q_tk1_iff.mp h).1, fun h => q_tk1_iff.mpr ⟨h, ?_⟩⟩
    have := q_ta_le (zv (su u 6 3 (nI k))) i
    omega
  unfold q_wb q_kn
  by_cases h : (zv u 0 i = 0 ∨ zv u 0 i = 1) ∧ q_cut (zv u) i = false
  · rw [if_pos (htk.mpr h), if_pos h.1, if_pos h.2]
    have e1 : ∀ d, d < 12 → q_rdm (zv (su u 6 3 (nI k))) (q_ar (zv (su u 6 3 (nI k))) i (q_le (su u 6 3 (nI k)) (12 * q_ta (zv (su u 6 3 (nI k))) i + d))) = (if q_bit (nI k) d = 8 then (if decide (¬ q_ar (zv u) i 8 < zv u 5 0) = true then (1 : Int32) else 0) else (if decide (¬ q_ar (zv u) i 4 < zv u 5 0) = true then 1 else 0)) := by
      intro d hd
      have e2 : q_le (su u 6 3 (nI k)) (12 * q_ta (zv (su u 6 3 (nI k))) i + d) = q_bit (nI k) d := by
        unfold q_le
        rw [if_neg hne, e63, show (12 * q_ta (zv (su u 6 3 (nI k))) i + d) % 12 = d by omega]
      rw [e2, q_rdm_eq]
      show q_rd (zv u) (q_ar (zv u) i (q_bit (nI k) d)) = _
      unfold q_rd
      rcases q_bit_48 (nI k) d with e | e
      · rw [e, if_pos rfl]
        by_cases q : q_ar (zv u) i 8 < zv u 5 0 <;> simp [q]
      · rw [e, if_neg (show ¬ (4 : Int32) = 8 by decide)]
        by_cases q : q_ar (zv u) i 4 < zv u 5 0 <;> simp [q]
    have hw := q_word hk (decide (¬ q_ar (zv u) i 8 < zv u 5 0)) (decide (¬ q_ar (zv u) i 4 < zv u 5 0))
    unfold q_wq at hw
    unfold q_wbm
    rw [q_wd_c 12 e1, hw, q_wo_tr i h.2, q_wo_tr i h.2]
    show _ = ((if ¬ q_ar (zv u) i 8 < zv u 5 0 then nI k else 0) ||| (if ¬ q_ar (zv u) i 4 < zv u 5 0 then 4095 - nI k else 0))
    simp only [decide_eq_true_eq]
  · rw [if_neg (fun q => h (htk.mp q))]
    by_cases ht : zv u 0 i = 0 ∨ zv u 0 i = 1
    · rw [if_pos ht, if_neg (fun q => h ⟨ht, q⟩)]
      rfl
    · rw [if_neg ht]
      rfl
theorem q_wr_wm {u : Nat → Nat → Int32} {k : Nat} (hk : k ≤ 4095) : ∀ i : Nat, i ≤ 8 → q_wr (su u 6 3 (nI k)) (nI k) i = q_wm (zv u) (zv u 1) (nI k) i
  | 0, _ => rfl
  | i + 1, hi => by
    simp only [q_wr, q_wm]
    rw [q_wr_wm hk i (by omega)]
    have e : (if zv (su u 6 3 (nI k)) 0 i = 0 then q_wb (su u 6 3 (nI k)) 96 i else 0) = (if zv u 0 i = 0 then q_kn (zv u) (zv u 1) (nI k) i else 0) := by
      rw [q_kn_wb (by omega) hk]
      rfl
    rw [e]
    by_cases q : (if zv u 0 i = 0 then q_kn (zv u) (zv u 1) (nI k) i else 0) = nI k
    · rw [if_pos q, if_pos q.symm]
      simp
    · rw [if_neg q, if_neg (fun h => q h.symm)]
theorem q_wv_wm {u v : Nat → Nat → Int32} {n k : Nat} (h : q_E n v (zv u)) (hk : k ≤ 4095) : q_wm v (q_el v (-1) 0) (nI k) 8 = q_wv u (nI k) := by
  unfold q_wv
  rw [q_wr_wm hk 8 (by omega)]
  refine e_wm h (fun i hi => ?_) (nI k) 8 (by omega)
  unfold q_el
  rw [if_neg (wl_nm1 (b := 8) (by omega) (by omega))]
  exact h.1 1 (by omega) i hi
/-! another row of losses -/
section S1
variable {v : Nat → Nat → Int32} {f L : Nat → Int32} {x : Int32}
theorem s1_cut : ∀ j : Nat, q_cut (sf v 1 f) j = q_cut v j
  | 0 => rfl
  | j + 1 => by
    show (q_cut (sf v 1 f) j || decide (v 0 j = 2)) = (q_cut v j || decide (v 0 j = 2))
    rw [s1_cut j]
theorem s1_wo : ∀ j : Nat, q_wo (sf v 1 f) L x j = q_wo v L x j
  | 0 => rfl
  | j + 1 => by
    show (if v 0 j = 0 ∨ v 0 j = 1 then (if q_cut (sf v 1 f) j = false then q_ho v (q_sh (q_wo (sf v 1 f) L x j) (L j)) else q_sh (q_wo (sf v 1 f) L x j) (L j)) else q_sh (q_wo (sf v 1 f) L x j) (L j)) = _
    rw [s1_wo j, s1_cut j]
    rfl
theorem s1_kn {j : Nat} : q_kn (sf v 1 f) L x j = q_kn v L x j := by
  show (if v 0 j = 0 ∨ v 0 j = 1 then (if q_cut (sf v 1 f) j = false then ((if ¬ q_sh (q_wo (sf v 1 f) L 8 j) (L j) < v 5 0 then x else 0) ||| (if ¬ q_sh (q_wo (sf v 1 f) L 4 j) (L j) < v 5 0 then 4095 - x else 0)) else v 2 j) else v 2 j) = _
  rw [s1_wo, s1_wo, s1_cut]
  rfl
theorem s1_wm : ∀ j : Nat, q_wm (sf v 1 f) L x j = q_wm v L x j
  | 0 => rfl
  | j + 1 => by
    show (if x = (if v 0 j = 0 then q_kn (sf v 1 f) L x j else 0) then q_wm (sf v 1 f) L x j else q_wm (sf v 1 f) L x j ||| ((1 : Int32) <<< (nI j &&& 31))) = _
    rw [s1_wm j, s1_kn]
    rfl
end S1
theorem zv_8 {u : Nat → Nat → Int32} {i j k : Nat} {x : Int32} (hi : i < 8) (hj : j < 8) (hk : k < 5) (hk1 : ¬ k = 1) : zv (su u 0 (8 + i) x) k j = zv u k j := by
  rcases (show k = 0 ∨ k = 2 ∨ k = 3 ∨ k = 4 by omega) with rfl | rfl | rfl | rfl
  · show upd (u 0) (8 + i) x (0 + j) = u 0 (0 + j)
    rw [q_upd, if_neg (by omega)]
  · show upd (u 0) (8 + i) x (16 + j) = u 0 (16 + j)
    rw [q_upd, if_neg (by omega)]
  · show upd (u 0) (8 + i) x (24 + j) = u 0 (24 + j)
    rw [q_upd, if_neg (by omega)]
  · show upd (u 0) (8 + i) x (32 + j) = u 0 (32 + j)
    rw [q_upd, if_neg (by omega)]
theorem q_wv_el {u v : Nat → Nat → Int32} {n i l k : Nat} (h : q_E n v (zv u)) (hi : i < 8) (hk : k ≤ 4095) : q_wm v (q_el v (nI i) (nI l)) (nI k) 8 = q_wv (su u 0 (8 + i) (nI l)) (nI k) := by
  unfold q_wv
  rw [q_wr_wm hk 8 (by omega), ← s1_wm (v := v) (f := zv (su u 0 (8 + i) (nI l)) 1)]
  have hE : q_E 0 (sf v 1 (zv (su u 0 (8 + i) (nI l)) 1)) (zv (su u 0 (8 + i) (nI l))) := by
    refine ⟨fun r hr j hj => ?_, fun j hj => ?_, fun j hj => absurd hj (Nat.not_lt_zero j), fun j hj => ?_⟩
    · by_cases h1 : r = 1
      · subst h1
        rfl
      · rw [zv_8 hi hj hr h1, show sf v 1 (zv (su u 0 (8 + i) (nI l)) 1) r = v r from if_neg h1]
        exact h.1 r hr j hj
    · show v 5 j = upd (u 0) (8 + i) (nI l) (40 + j)
      rw [q_upd, if_neg (by omega)]
      exact h.2.1 j hj
    · show v 7 j = zv (su u 0 (8 + i) (nI l)) 7 j
      rw [h.2.2.2 j hj]
      rcases (show j = 0 ∨ j = 1 ∨ j = 2 ∨ j = 3 ∨ j = 4 ∨ j = 5 by omega) with rfl | rfl | rfl | rfl | rfl | rfl
      · show u 0 49 = upd (u 0) (8 + i) (nI l) 49
        rw [q_upd, if_neg (by omega)]
      · show u 0 43 = upd (u 0) (8 + i) (nI l) 43
        rw [q_upd, if_neg (by omega)]
      · show u 0 45 = upd (u 0) (8 + i) (nI l) 45
        rw [q_upd, if_neg (by omega)]
      · show u 0 46 = upd (u 0) (8 + i) (nI l) 46
        rw [q_upd, if_neg (by omega)]
      · show u 0 47 = upd (u 0) (8 + i) (nI l) 47
        rw [q_upd, if_neg (by omega)]
      · show u 0 48 = upd (u 0) (8 + i) (nI l) 48
        rw [q_upd, if_neg (by omega)]
  refine e_wm hE (fun j hj => ?_) (nI k) 8 (by omega)
  show (if nI j = nI i then nI l else v 1 j) = upd (u 0) (8 + i) (nI l) (8 + j)
  rw [q_upd]
  by_cases e : j = i
  · subst e
    rw [if_pos rfl, if_pos rfl]
  · rw [if_neg (fun q => e ((nI_eq (by omega) (by omega)).mp q)), if_neg (by omega)]
    exact h.1 1 (by omega) j hj
theorem q_6m : ∀ m : Nat, m < 7 → (6 - nI (7 - (m + 1)) : Int32) = nI m := by decide +kernel
theorem q_bs_fl {u v : Nat → Nat → Int32} {n i : Nat} (h : q_E n v (zv u)) (hi : i < 8) : ∀ m : Nat, m ≤ 7 → q_bs (q_bp v i) m (7 - m) = q_fl u i m
  | 0, _ => rfl
  | m + 1, hm => by
    have ih := q_bs_fl h hi m (by omega)
    have e6 := q_6m m (by omega)
    simp only [q_bs, q_fl]
    rw [show 7 - (m + 1) + 1 = 7 - m by omega, ih]
    unfold q_bp
    rw [e6, show (1365 : Int32) = nI 1365 from rfl, show (2730 : Int32) = nI 2730 from rfl, q_wv_el h hi (by omega), q_wv_el h hi (by omega)]
    by_cases a : q_wv (su u 0 (8 + i) (nI m)) (nI 1365) = 0
    · by_cases b : q_wv (su u 0 (8 + i) (nI m)) (nI 2730) = 0
      · rw [if_pos a, if_pos b, if_pos (by rw [decide_eq_true a, decide_eq_true b]; rfl)]
      · rw [if_pos a, if_neg b, if_neg (by rw [decide_eq_false b, Bool.and_false]; decide)]
    · rw [if_neg a, if_neg (by rw [decide_eq_false a, Bool.false_and]; decide)]
theorem q_be_fl {u v : Nat → Nat → Int32} {n i : Nat} (h : q_E n v (zv u)) (hi : i < 8) : q_be v i = q_fl u i 7 := q_bs_fl h hi 7 (by omega)
